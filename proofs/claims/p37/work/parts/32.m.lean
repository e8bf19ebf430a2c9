theorem dX8_addToken_0 : decode cX8_addToken 0 = .ok (.aload_n 0, 1) := by decide +kernel
theorem dX8_addToken_1 : decode cX8_addToken 1 = .ok (.getfield 30, 3) := by decide +kernel
theorem dX8_addToken_4 : decode cX8_addToken 4 = .ok (.aload_n 0, 1) := by decide +kernel
theorem dX8_addToken_5 : decode cX8_addToken 5 = .ok (.getfield 15, 3) := by decide +kernel
theorem dX8_addToken_8 : decode cX8_addToken 8 = .ok (.arraylength, 1) := by decide +kernel
theorem dX8_addToken_9 : decode cX8_addToken 9 = .ok (.if_icmp .ge 43, 3) := by decide +kernel
theorem dX8_addToken_12 : decode cX8_addToken 12 = .ok (.aload_n 0, 1) := by decide +kernel
theorem dX8_addToken_13 : decode cX8_addToken 13 = .ok (.getfield 15, 3) := by decide +kernel
theorem dX8_addToken_16 : decode cX8_addToken 16 = .ok (.aload_n 0, 1) := by decide +kernel
theorem dX8_addToken_17 : decode cX8_addToken 17 = .ok (.getfield 30, 3) := by decide +kernel
theorem dX8_addToken_20 : decode cX8_addToken 20 = .ok (.iload_n 1, 1) := by decide +kernel
theorem dX8_addToken_21 : decode cX8_addToken 21 = .ok (.iastore, 1) := by decide +kernel
theorem dX8_addToken_22 : decode cX8_addToken 22 = .ok (.aload_n 0, 1) := by decide +kernel
theorem dX8_addToken_23 : decode cX8_addToken 23 = .ok (.getfield 19, 3) := by decide +kernel
theorem dX8_addToken_26 : decode cX8_addToken 26 = .ok (.aload_n 0, 1) := by decide +kernel
theorem dX8_addToken_27 : decode cX8_addToken 27 = .ok (.getfield 30, 3) := by decide +kernel
theorem dX8_addToken_30 : decode cX8_addToken 30 = .ok (.iload_n 2, 1) := by decide +kernel
theorem dX8_addToken_31 : decode cX8_addToken 31 = .ok (.iastore, 1) := by decide +kernel
theorem dX8_addToken_32 : decode cX8_addToken 32 = .ok (.aload_n 0, 1) := by decide +kernel
theorem dX8_addToken_33 : decode cX8_addToken 33 = .ok (.getfield 22, 3) := by decide +kernel
theorem dX8_addToken_36 : decode cX8_addToken 36 = .ok (.aload_n 0, 1) := by decide +kernel
theorem dX8_addToken_37 : decode cX8_addToken 37 = .ok (.getfield 30, 3) := by decide +kernel
theorem dX8_addToken_40 : decode cX8_addToken 40 = .ok (.lload_n 3, 1) := by decide +kernel
theorem dX8_addToken_41 : decode cX8_addToken 41 = .ok (.lastore, 1) := by decide +kernel
theorem dX8_addToken_42 : decode cX8_addToken 42 = .ok (.aload_n 0, 1) := by decide +kernel
theorem dX8_addToken_43 : decode cX8_addToken 43 = .ok (.dup, 1) := by decide +kernel
theorem dX8_addToken_44 : decode cX8_addToken 44 = .ok (.getfield 30, 3) := by decide +kernel
theorem dX8_addToken_47 : decode cX8_addToken 47 = .ok (.iconst 1, 1) := by decide +kernel
theorem dX8_addToken_48 : decode cX8_addToken 48 = .ok (.iadd, 1) := by decide +kernel
theorem dX8_addToken_49 : decode cX8_addToken 49 = .ok (.putfield 30, 3) := by decide +kernel
theorem dX8_addToken_52 : decode cX8_addToken 52 = .ok (.return_, 1) := by decide +kernel
theorem dX8_scanNumber_0 : decode cX8_scanNumber 0 = .ok (.iconst 0, 1) := by decide +kernel
theorem dX8_scanNumber_1 : decode cX8_scanNumber 1 = .ok (.istore_n 2, 1) := by decide +kernel
theorem dX8_scanNumber_2 : decode cX8_scanNumber 2 = .ok (.iconst 0, 1) := by decide +kernel
theorem dX8_scanNumber_3 : decode cX8_scanNumber 3 = .ok (.istore_n 3, 1) := by decide +kernel
theorem dX8_scanNumber_4 : decode cX8_scanNumber 4 = .ok (.iload_n 3, 1) := by decide +kernel
theorem dX8_scanNumber_5 : decode cX8_scanNumber 5 = .ok (.iconst 4, 1) := by decide +kernel
theorem dX8_scanNumber_6 : decode cX8_scanNumber 6 = .ok (.if_icmp .ge 36, 3) := by decide +kernel
theorem dX8_scanNumber_9 : decode cX8_scanNumber 9 = .ok (.aload_n 0, 1) := by decide +kernel
theorem dX8_scanNumber_10 : decode cX8_scanNumber 10 = .ok (.iload_n 1, 1) := by decide +kernel
theorem dX8_scanNumber_11 : decode cX8_scanNumber 11 = .ok (.iload_n 3, 1) := by decide +kernel
theorem dX8_scanNumber_12 : decode cX8_scanNumber 12 = .ok (.iadd, 1) := by decide +kernel
theorem dX8_scanNumber_13 : decode cX8_scanNumber 13 = .ok (.invokevirtual 37, 3) := by decide +kernel
theorem dX8_scanNumber_16 : decode cX8_scanNumber 16 = .ok (.ifCond .eq 26, 3) := by decide +kernel
theorem dX8_scanNumber_19 : decode cX8_scanNumber 19 = .ok (.iload_n 2, 1) := by decide +kernel
theorem dX8_scanNumber_20 : decode cX8_scanNumber 20 = .ok (.bipush 10, 2) := by decide +kernel
theorem dX8_scanNumber_22 : decode cX8_scanNumber 22 = .ok (.imul, 1) := by decide +kernel
theorem dX8_scanNumber_23 : decode cX8_scanNumber 23 = .ok (.aload_n 0, 1) := by decide +kernel
theorem dX8_scanNumber_24 : decode cX8_scanNumber 24 = .ok (.getfield 9, 3) := by decide +kernel
theorem dX8_scanNumber_27 : decode cX8_scanNumber 27 = .ok (.iload_n 1, 1) := by decide +kernel
theorem dX8_scanNumber_28 : decode cX8_scanNumber 28 = .ok (.iload_n 3, 1) := by decide +kernel
theorem dX8_scanNumber_29 : decode cX8_scanNumber 29 = .ok (.iadd, 1) := by decide +kernel
theorem dX8_scanNumber_30 : decode cX8_scanNumber 30 = .ok (.baload, 1) := by decide +kernel
theorem dX8_scanNumber_31 : decode cX8_scanNumber 31 = .ok (.iadd, 1) := by decide +kernel
theorem dX8_scanNumber_32 : decode cX8_scanNumber 32 = .ok (.bipush 48, 2) := by decide +kernel
theorem dX8_scanNumber_34 : decode cX8_scanNumber 34 = .ok (.isub, 1) := by decide +kernel
theorem dX8_scanNumber_35 : decode cX8_scanNumber 35 = .ok (.istore_n 2, 1) := by decide +kernel
theorem dX8_scanNumber_36 : decode cX8_scanNumber 36 = .ok (.iinc 3 1, 3) := by decide +kernel
theorem dX8_scanNumber_39 : decode cX8_scanNumber 39 = .ok (.goto (-35), 3) := by decide +kernel
theorem dX8_scanNumber_42 : decode cX8_scanNumber 42 = .ok (.aload_n 0, 1) := by decide +kernel
theorem dX8_scanNumber_43 : decode cX8_scanNumber 43 = .ok (.iconst 3, 1) := by decide +kernel
theorem dX8_scanNumber_44 : decode cX8_scanNumber 44 = .ok (.iload_n 1, 1) := by decide +kernel
theorem dX8_scanNumber_45 : decode cX8_scanNumber 45 = .ok (.iload_n 2, 1) := by decide +kernel
theorem dX8_scanNumber_46 : decode cX8_scanNumber 46 = .ok (.i2l, 1) := by decide +kernel
theorem dX8_scanNumber_47 : decode cX8_scanNumber 47 = .ok (.invokevirtual 54, 3) := by decide +kernel
theorem dX8_scanNumber_50 : decode cX8_scanNumber 50 = .ok (.iconst 1, 1) := by decide +kernel
theorem dX8_scanNumber_51 : decode cX8_scanNumber 51 = .ok (.iload_n 3, 1) := by decide +kernel
theorem dX8_scanNumber_52 : decode cX8_scanNumber 52 = .ok (.invokestatic 62, 3) := by decide +kernel
theorem dX8_scanNumber_55 : decode cX8_scanNumber 55 = .ok (.ireturn, 1) := by decide +kernel
theorem dX9_tell_0 : decode cX9_tell 0 = .ok (.aload_n 0, 1) := by decide +kernel
theorem dX9_tell_1 : decode cX9_tell 1 = .ok (.getfield 31, 3) := by decide +kernel
theorem dX9_tell_4 : decode cX9_tell 4 = .ok (.bipush 30, 2) := by decide +kernel
theorem dX9_tell_6 : decode cX9_tell 6 = .ok (.if_icmp .lt 5, 3) := by decide +kernel
theorem dX9_tell_9 : decode cX9_tell 9 = .ok (.iconst (-1), 1) := by decide +kernel
theorem dX9_tell_10 : decode cX9_tell 10 = .ok (.ireturn, 1) := by decide +kernel
theorem dX9_tell_11 : decode cX9_tell 11 = .ok (.aload_n 0, 1) := by decide +kernel
theorem dX9_tell_12 : decode cX9_tell 12 = .ok (.getfield 11, 3) := by decide +kernel
theorem dX9_tell_15 : decode cX9_tell 15 = .ok (.aload_n 0, 1) := by decide +kernel
theorem dX9_tell_16 : decode cX9_tell 16 = .ok (.getfield 31, 3) := by decide +kernel
theorem dX9_tell_19 : decode cX9_tell 19 = .ok (.iconst 3, 1) := by decide +kernel
theorem dX9_tell_20 : decode cX9_tell 20 = .ok (.imul, 1) := by decide +kernel
theorem dX9_tell_21 : decode cX9_tell 21 = .ok (.iload_n 1, 1) := by decide +kernel
theorem dX9_tell_22 : decode cX9_tell 22 = .ok (.iastore, 1) := by decide +kernel
theorem dX9_tell_23 : decode cX9_tell 23 = .ok (.aload_n 0, 1) := by decide +kernel
theorem dX9_tell_24 : decode cX9_tell 24 = .ok (.getfield 11, 3) := by decide +kernel
theorem dX9_tell_27 : decode cX9_tell 27 = .ok (.aload_n 0, 1) := by decide +kernel
theorem dX9_tell_28 : decode cX9_tell 28 = .ok (.getfield 31, 3) := by decide +kernel
theorem dX9_tell_31 : decode cX9_tell 31 = .ok (.iconst 3, 1) := by decide +kernel
theorem dX9_tell_32 : decode cX9_tell 32 = .ok (.imul, 1) := by decide +kernel
theorem dX9_tell_33 : decode cX9_tell 33 = .ok (.iconst 1, 1) := by decide +kernel
theorem dX9_tell_34 : decode cX9_tell 34 = .ok (.iadd, 1) := by decide +kernel
theorem dX9_tell_35 : decode cX9_tell 35 = .ok (.iload_n 2, 1) := by decide +kernel
theorem dX9_tell_36 : decode cX9_tell 36 = .ok (.iastore, 1) := by decide +kernel
theorem dX9_tell_37 : decode cX9_tell 37 = .ok (.aload_n 0, 1) := by decide +kernel
theorem dX9_tell_38 : decode cX9_tell 38 = .ok (.getfield 11, 3) := by decide +kernel
theorem dX9_tell_41 : decode cX9_tell 41 = .ok (.aload_n 0, 1) := by decide +kernel
theorem dX9_tell_42 : decode cX9_tell 42 = .ok (.getfield 31, 3) := by decide +kernel
theorem dX9_tell_45 : decode cX9_tell 45 = .ok (.iconst 3, 1) := by decide +kernel
theorem dX9_tell_46 : decode cX9_tell 46 = .ok (.imul, 1) := by decide +kernel
theorem dX9_tell_47 : decode cX9_tell 47 = .ok (.iconst 2, 1) := by decide +kernel
theorem dX9_tell_48 : decode cX9_tell 48 = .ok (.iadd, 1) := by decide +kernel
theorem dX9_tell_49 : decode cX9_tell 49 = .ok (.iload_n 3, 1) := by decide +kernel
theorem dX9_tell_50 : decode cX9_tell 50 = .ok (.iastore, 1) := by decide +kernel
theorem dX9_tell_51 : decode cX9_tell 51 = .ok (.aload_n 0, 1) := by decide +kernel
theorem dX9_tell_52 : decode cX9_tell 52 = .ok (.getfield 15, 3) := by decide +kernel
theorem dX9_tell_55 : decode cX9_tell 55 = .ok (.aload_n 0, 1) := by decide +kernel
theorem dX9_tell_56 : decode cX9_tell 56 = .ok (.getfield 31, 3) := by decide +kernel
theorem dX9_tell_59 : decode cX9_tell 59 = .ok (.iload 4, 2) := by decide +kernel
theorem dX9_tell_61 : decode cX9_tell 61 = .ok (.iastore, 1) := by decide +kernel
theorem dX9_tell_62 : decode cX9_tell 62 = .ok (.aload_n 0, 1) := by decide +kernel
theorem dX9_tell_63 : decode cX9_tell 63 = .ok (.getfield 18, 3) := by decide +kernel
theorem dX9_tell_66 : decode cX9_tell 66 = .ok (.aload_n 0, 1) := by decide +kernel
theorem dX9_tell_67 : decode cX9_tell 67 = .ok (.getfield 31, 3) := by decide +kernel
theorem dX9_tell_70 : decode cX9_tell 70 = .ok (.iload 5, 2) := by decide +kernel
theorem dX9_tell_72 : decode cX9_tell 72 = .ok (.bastore, 1) := by decide +kernel
theorem dX9_tell_73 : decode cX9_tell 73 = .ok (.aload_n 0, 1) := by decide +kernel
theorem dX9_tell_74 : decode cX9_tell 74 = .ok (.getfield 22, 3) := by decide +kernel
theorem dX9_tell_77 : decode cX9_tell 77 = .ok (.aload_n 0, 1) := by decide +kernel
theorem dX9_tell_78 : decode cX9_tell 78 = .ok (.getfield 31, 3) := by decide +kernel
theorem dX9_tell_81 : decode cX9_tell 81 = .ok (.aload_n 0, 1) := by decide +kernel
theorem dX9_tell_82 : decode cX9_tell 82 = .ok (.getfield 35, 3) := by decide +kernel
theorem dX9_tell_85 : decode cX9_tell 85 = .ok (.iastore, 1) := by decide +kernel
theorem dX9_tell_86 : decode cX9_tell 86 = .ok (.aload_n 0, 1) := by decide +kernel
theorem dX9_tell_87 : decode cX9_tell 87 = .ok (.getfield 25, 3) := by decide +kernel
theorem dX9_tell_90 : decode cX9_tell 90 = .ok (.aload_n 0, 1) := by decide +kernel
theorem dX9_tell_91 : decode cX9_tell 91 = .ok (.getfield 31, 3) := by decide +kernel
theorem dX9_tell_94 : decode cX9_tell 94 = .ok (.iconst (-1), 1) := by decide +kernel
theorem dX9_tell_95 : decode cX9_tell 95 = .ok (.iastore, 1) := by decide +kernel
theorem dX9_tell_96 : decode cX9_tell 96 = .ok (.aload_n 0, 1) := by decide +kernel
theorem dX9_tell_97 : decode cX9_tell 97 = .ok (.dup, 1) := by decide +kernel
theorem dX9_tell_98 : decode cX9_tell 98 = .ok (.getfield 31, 3) := by decide +kernel
theorem dX9_tell_101 : decode cX9_tell 101 = .ok (.iconst 1, 1) := by decide +kernel
theorem dX9_tell_102 : decode cX9_tell 102 = .ok (.iadd, 1) := by decide +kernel
theorem dX9_tell_103 : decode cX9_tell 103 = .ok (.putfield 31, 3) := by decide +kernel
theorem dX9_tell_106 : decode cX9_tell 106 = .ok (.aload_n 0, 1) := by decide +kernel
theorem dX9_tell_107 : decode cX9_tell 107 = .ok (.getfield 31, 3) := by decide +kernel
theorem dX9_tell_110 : decode cX9_tell 110 = .ok (.iconst 1, 1) := by decide +kernel
theorem dX9_tell_111 : decode cX9_tell 111 = .ok (.isub, 1) := by decide +kernel
theorem dX9_tell_112 : decode cX9_tell 112 = .ok (.ireturn, 1) := by decide +kernel
theorem dX9_takeBack_0 : decode cX9_takeBack 0 = .ok (.iload_n 1, 1) := by decide +kernel
theorem dX9_takeBack_1 : decode cX9_takeBack 1 = .ok (.ifCond .lt 21, 3) := by decide +kernel
theorem dX9_takeBack_4 : decode cX9_takeBack 4 = .ok (.iload_n 1, 1) := by decide +kernel
theorem dX9_takeBack_5 : decode cX9_takeBack 5 = .ok (.aload_n 0, 1) := by decide +kernel
theorem dX9_takeBack_6 : decode cX9_takeBack 6 = .ok (.getfield 31, 3) := by decide +kernel
theorem dX9_takeBack_9 : decode cX9_takeBack 9 = .ok (.if_icmp .ge 13, 3) := by decide +kernel
theorem dX9_takeBack_12 : decode cX9_takeBack 12 = .ok (.aload_n 0, 1) := by decide +kernel
theorem dX9_takeBack_13 : decode cX9_takeBack 13 = .ok (.getfield 25, 3) := by decide +kernel
theorem dX9_takeBack_16 : decode cX9_takeBack 16 = .ok (.iload_n 1, 1) := by decide +kernel
theorem dX9_takeBack_17 : decode cX9_takeBack 17 = .ok (.iaload, 1) := by decide +kernel
theorem dX9_takeBack_18 : decode cX9_takeBack 18 = .ok (.iconst (-1), 1) := by decide +kernel
theorem dX9_takeBack_19 : decode cX9_takeBack 19 = .ok (.if_icmp .eq 5, 3) := by decide +kernel
theorem dX9_takeBack_22 : decode cX9_takeBack 22 = .ok (.iconst 0, 1) := by decide +kernel
theorem dX9_takeBack_23 : decode cX9_takeBack 23 = .ok (.ireturn, 1) := by decide +kernel
theorem dX9_takeBack_24 : decode cX9_takeBack 24 = .ok (.aload_n 0, 1) := by decide +kernel
theorem dX9_takeBack_25 : decode cX9_takeBack 25 = .ok (.getfield 25, 3) := by decide +kernel
theorem dX9_takeBack_28 : decode cX9_takeBack 28 = .ok (.iload_n 1, 1) := by decide +kernel
theorem dX9_takeBack_29 : decode cX9_takeBack 29 = .ok (.aload_n 0, 1) := by decide +kernel
theorem dX9_takeBack_30 : decode cX9_takeBack 30 = .ok (.getfield 35, 3) := by decide +kernel
theorem dX9_takeBack_33 : decode cX9_takeBack 33 = .ok (.iastore, 1) := by decide +kernel
theorem dX9_takeBack_34 : decode cX9_takeBack 34 = .ok (.iconst 1, 1) := by decide +kernel
theorem dX9_takeBack_35 : decode cX9_takeBack 35 = .ok (.ireturn, 1) := by decide +kernel
theorem dX9_counts_0 : decode cX9_counts 0 = .ok (.aload_n 0, 1) := by decide +kernel
theorem dX9_counts_1 : decode cX9_counts 1 = .ok (.getfield 25, 3) := by decide +kernel
theorem dX9_counts_4 : decode cX9_counts 4 = .ok (.iload_n 1, 1) := by decide +kernel
theorem dX9_counts_5 : decode cX9_counts 5 = .ok (.iaload, 1) := by decide +kernel
theorem dX9_counts_6 : decode cX9_counts 6 = .ok (.iconst (-1), 1) := by decide +kernel
theorem dX9_counts_7 : decode cX9_counts 7 = .ok (.if_icmp .eq 17, 3) := by decide +kernel
theorem dX9_counts_10 : decode cX9_counts 10 = .ok (.aload_n 0, 1) := by decide +kernel
theorem dX9_counts_11 : decode cX9_counts 11 = .ok (.getfield 25, 3) := by decide +kernel
theorem dX9_counts_14 : decode cX9_counts 14 = .ok (.iload_n 1, 1) := by decide +kernel
theorem dX9_counts_15 : decode cX9_counts 15 = .ok (.iaload, 1) := by decide +kernel
theorem dX9_counts_16 : decode cX9_counts 16 = .ok (.iload_n 2, 1) := by decide +kernel
theorem dX9_counts_17 : decode cX9_counts 17 = .ok (.if_icmp .gt 7, 3) := by decide +kernel
theorem dX9_counts_20 : decode cX9_counts 20 = .ok (.iconst 1, 1) := by decide +kernel
theorem dX9_counts_21 : decode cX9_counts 21 = .ok (.goto 4, 3) := by decide +kernel
theorem dX9_counts_24 : decode cX9_counts 24 = .ok (.iconst 0, 1) := by decide +kernel
theorem dX9_counts_25 : decode cX9_counts 25 = .ok (.istore_n 3, 1) := by decide +kernel
theorem dX9_counts_26 : decode cX9_counts 26 = .ok (.aload_n 0, 1) := by decide +kernel
theorem dX9_counts_27 : decode cX9_counts 27 = .ok (.getfield 22, 3) := by decide +kernel
theorem dX9_counts_30 : decode cX9_counts 30 = .ok (.iload_n 1, 1) := by decide +kernel
theorem dX9_counts_31 : decode cX9_counts 31 = .ok (.iaload, 1) := by decide +kernel
theorem dX9_counts_32 : decode cX9_counts 32 = .ok (.iload_n 2, 1) := by decide +kernel
theorem dX9_counts_33 : decode cX9_counts 33 = .ok (.if_icmp .gt 11, 3) := by decide +kernel
theorem dX9_counts_36 : decode cX9_counts 36 = .ok (.iload_n 3, 1) := by decide +kernel
theorem dX9_counts_37 : decode cX9_counts 37 = .ok (.ifCond .ne 7, 3) := by decide +kernel
theorem dX9_counts_40 : decode cX9_counts 40 = .ok (.iconst 1, 1) := by decide +kernel
theorem dX9_counts_41 : decode cX9_counts 41 = .ok (.goto 4, 3) := by decide +kernel
theorem dX9_counts_44 : decode cX9_counts 44 = .ok (.iconst 0, 1) := by decide +kernel
theorem dX9_counts_45 : decode cX9_counts 45 = .ok (.ireturn, 1) := by decide +kernel
theorem dX9_fits_0 : decode cX9_fits 0 = .ok (.iconst 0, 1) := by decide +kernel
theorem dX9_fits_1 : decode cX9_fits 1 = .ok (.istore 5, 2) := by decide +kernel
theorem dX9_fits_3 : decode cX9_fits 3 = .ok (.iload 5, 2) := by decide +kernel
theorem dX9_fits_5 : decode cX9_fits 5 = .ok (.aload_n 0, 1) := by decide +kernel
theorem dX9_fits_6 : decode cX9_fits 6 = .ok (.getfield 31, 3) := by decide +kernel
theorem dX9_fits_9 : decode cX9_fits 9 = .ok (.if_icmp .ge 90, 3) := by decide +kernel
theorem dX9_fits_12 : decode cX9_fits 12 = .ok (.aload_n 0, 1) := by decide +kernel
theorem dX9_fits_13 : decode cX9_fits 13 = .ok (.getfield 11, 3) := by decide +kernel
theorem dX9_fits_16 : decode cX9_fits 16 = .ok (.iload 5, 2) := by decide +kernel
theorem dX9_fits_18 : decode cX9_fits 18 = .ok (.iconst 3, 1) := by decide +kernel
theorem dX9_fits_19 : decode cX9_fits 19 = .ok (.imul, 1) := by decide +kernel
theorem dX9_fits_20 : decode cX9_fits 20 = .ok (.iaload, 1) := by decide +kernel
theorem dX9_fits_21 : decode cX9_fits 21 = .ok (.iload_n 1, 1) := by decide +kernel
theorem dX9_fits_22 : decode cX9_fits 22 = .ok (.imul, 1) := by decide +kernel
theorem dX9_fits_23 : decode cX9_fits 23 = .ok (.aload_n 0, 1) := by decide +kernel
theorem dX9_fits_24 : decode cX9_fits 24 = .ok (.getfield 11, 3) := by decide +kernel
theorem dX9_fits_27 : decode cX9_fits 27 = .ok (.iload 5, 2) := by decide +kernel
theorem dX9_fits_29 : decode cX9_fits 29 = .ok (.iconst 3, 1) := by decide +kernel
theorem dX9_fits_30 : decode cX9_fits 30 = .ok (.imul, 1) := by decide +kernel
theorem dX9_fits_31 : decode cX9_fits 31 = .ok (.iconst 1, 1) := by decide +kernel
theorem dX9_fits_32 : decode cX9_fits 32 = .ok (.iadd, 1) := by decide +kernel
theorem dX9_fits_33 : decode cX9_fits 33 = .ok (.iaload, 1) := by decide +kernel
theorem dX9_fits_34 : decode cX9_fits 34 = .ok (.iload_n 2, 1) := by decide +kernel
theorem dX9_fits_35 : decode cX9_fits 35 = .ok (.imul, 1) := by decide +kernel
theorem dX9_fits_36 : decode cX9_fits 36 = .ok (.iadd, 1) := by decide +kernel
theorem dX9_fits_37 : decode cX9_fits 37 = .ok (.aload_n 0, 1) := by decide +kernel
theorem dX9_fits_38 : decode cX9_fits 38 = .ok (.getfield 11, 3) := by decide +kernel
theorem dX9_fits_41 : decode cX9_fits 41 = .ok (.iload 5, 2) := by decide +kernel
theorem dX9_fits_43 : decode cX9_fits 43 = .ok (.iconst 3, 1) := by decide +kernel
theorem dX9_fits_44 : decode cX9_fits 44 = .ok (.imul, 1) := by decide +kernel
theorem dX9_fits_45 : decode cX9_fits 45 = .ok (.iconst 2, 1) := by decide +kernel
theorem dX9_fits_46 : decode cX9_fits 46 = .ok (.iadd, 1) := by decide +kernel
theorem dX9_fits_47 : decode cX9_fits 47 = .ok (.iaload, 1) := by decide +kernel
theorem dX9_fits_48 : decode cX9_fits 48 = .ok (.iload_n 3, 1) := by decide +kernel
theorem dX9_fits_49 : decode cX9_fits 49 = .ok (.imul, 1) := by decide +kernel
theorem dX9_fits_50 : decode cX9_fits 50 = .ok (.iadd, 1) := by decide +kernel
theorem dX9_fits_51 : decode cX9_fits 51 = .ok (.istore 6, 2) := by decide +kernel
theorem dX9_fits_53 : decode cX9_fits 53 = .ok (.aload_n 0, 1) := by decide +kernel
theorem dX9_fits_54 : decode cX9_fits 54 = .ok (.iload 5, 2) := by decide +kernel
theorem dX9_fits_56 : decode cX9_fits 56 = .ok (.iload 4, 2) := by decide +kernel
theorem dX9_fits_58 : decode cX9_fits 58 = .ok (.invokevirtual 48, 3) := by decide +kernel
theorem dX9_fits_61 : decode cX9_fits 61 = .ok (.ifCond .eq 32, 3) := by decide +kernel
theorem dX9_fits_64 : decode cX9_fits 64 = .ok (.iload 6, 2) := by decide +kernel
theorem dX9_fits_66 : decode cX9_fits 66 = .ok (.aload_n 0, 1) := by decide +kernel
theorem dX9_fits_67 : decode cX9_fits 67 = .ok (.getfield 15, 3) := by decide +kernel
theorem dX9_fits_70 : decode cX9_fits 70 = .ok (.iload 5, 2) := by decide +kernel
theorem dX9_fits_72 : decode cX9_fits 72 = .ok (.iaload, 1) := by decide +kernel
theorem dX9_fits_73 : decode cX9_fits 73 = .ok (.if_icmp .lt 7, 3) := by decide +kernel
theorem dX9_fits_76 : decode cX9_fits 76 = .ok (.iconst 1, 1) := by decide +kernel
theorem dX9_fits_77 : decode cX9_fits 77 = .ok (.goto 4, 3) := by decide +kernel
theorem dX9_fits_80 : decode cX9_fits 80 = .ok (.iconst 0, 1) := by decide +kernel
theorem dX9_fits_81 : decode cX9_fits 81 = .ok (.aload_n 0, 1) := by decide +kernel
theorem dX9_fits_82 : decode cX9_fits 82 = .ok (.getfield 18, 3) := by decide +kernel
theorem dX9_fits_85 : decode cX9_fits 85 = .ok (.iload 5, 2) := by decide +kernel
theorem dX9_fits_87 : decode cX9_fits 87 = .ok (.baload, 1) := by decide +kernel
theorem dX9_fits_88 : decode cX9_fits 88 = .ok (.if_icmp .eq 5, 3) := by decide +kernel
theorem dX9_fits_91 : decode cX9_fits 91 = .ok (.iconst 0, 1) := by decide +kernel
theorem dX9_fits_92 : decode cX9_fits 92 = .ok (.ireturn, 1) := by decide +kernel
theorem dX9_fits_93 : decode cX9_fits 93 = .ok (.iinc 5 1, 3) := by decide +kernel
theorem dX9_fits_96 : decode cX9_fits 96 = .ok (.goto (-93), 3) := by decide +kernel
theorem dX9_fits_99 : decode cX9_fits 99 = .ok (.iconst 1, 1) := by decide +kernel
theorem dX9_fits_100 : decode cX9_fits 100 = .ok (.ireturn, 1) := by decide +kernel
theorem dX9_countFitting_0 : decode cX9_countFitting 0 = .ok (.aload_n 0, 1) := by decide +kernel
theorem dX9_countFitting_1 : decode cX9_countFitting 1 = .ok (.getfield 28, 3) := by decide +kernel
theorem dX9_countFitting_4 : decode cX9_countFitting 4 = .ok (.iconst 0, 1) := by decide +kernel
theorem dX9_countFitting_5 : decode cX9_countFitting 5 = .ok (.invokestatic 38, 3) := by decide +kernel
theorem dX9_countFitting_8 : decode cX9_countFitting 8 = .ok (.iload_n 1, 1) := by decide +kernel
theorem dX9_countFitting_9 : decode cX9_countFitting 9 = .ok (.ifCond .le 8, 3) := by decide +kernel
theorem dX9_countFitting_12 : decode cX9_countFitting 12 = .ok (.bipush 6, 2) := by decide +kernel
theorem dX9_countFitting_14 : decode cX9_countFitting 14 = .ok (.goto 4, 3) := by decide +kernel
theorem dX9_countFitting_17 : decode cX9_countFitting 17 = .ok (.iconst 1, 1) := by decide +kernel
theorem dX9_countFitting_18 : decode cX9_countFitting 18 = .ok (.istore_n 3, 1) := by decide +kernel
theorem dX9_countFitting_19 : decode cX9_countFitting 19 = .ok (.iload_n 1, 1) := by decide +kernel
theorem dX9_countFitting_20 : decode cX9_countFitting 20 = .ok (.iconst 1, 1) := by decide +kernel
theorem dX9_countFitting_21 : decode cX9_countFitting 21 = .ok (.if_icmp .le 8, 3) := by decide +kernel
theorem dX9_countFitting_24 : decode cX9_countFitting 24 = .ok (.bipush 6, 2) := by decide +kernel
theorem dX9_countFitting_26 : decode cX9_countFitting 26 = .ok (.goto 4, 3) := by decide +kernel
theorem dX9_countFitting_29 : decode cX9_countFitting 29 = .ok (.iconst 1, 1) := by decide +kernel
theorem dX9_countFitting_30 : decode cX9_countFitting 30 = .ok (.istore 4, 2) := by decide +kernel
theorem dX9_countFitting_32 : decode cX9_countFitting 32 = .ok (.iload_n 1, 1) := by decide +kernel
theorem dX9_countFitting_33 : decode cX9_countFitting 33 = .ok (.iconst 2, 1) := by decide +kernel
theorem dX9_countFitting_34 : decode cX9_countFitting 34 = .ok (.if_icmp .le 8, 3) := by decide +kernel
theorem dX9_countFitting_37 : decode cX9_countFitting 37 = .ok (.bipush 6, 2) := by decide +kernel
theorem dX9_countFitting_39 : decode cX9_countFitting 39 = .ok (.goto 4, 3) := by decide +kernel
theorem dX9_countFitting_42 : decode cX9_countFitting 42 = .ok (.iconst 1, 1) := by decide +kernel
theorem dX9_countFitting_43 : decode cX9_countFitting 43 = .ok (.istore 5, 2) := by decide +kernel
theorem dX9_countFitting_45 : decode cX9_countFitting 45 = .ok (.iconst 0, 1) := by decide +kernel
theorem dX9_countFitting_46 : decode cX9_countFitting 46 = .ok (.istore 6, 2) := by decide +kernel
theorem dX9_countFitting_48 : decode cX9_countFitting 48 = .ok (.iconst 0, 1) := by decide +kernel
theorem dX9_countFitting_49 : decode cX9_countFitting 49 = .ok (.istore 7, 2) := by decide +kernel
theorem dX9_countFitting_51 : decode cX9_countFitting 51 = .ok (.iload 7, 2) := by decide +kernel
theorem dX9_countFitting_53 : decode cX9_countFitting 53 = .ok (.iload_n 3, 1) := by decide +kernel
theorem dX9_countFitting_54 : decode cX9_countFitting 54 = .ok (.if_icmp .ge 97, 3) := by decide +kernel
theorem dX9_countFitting_57 : decode cX9_countFitting 57 = .ok (.iconst 0, 1) := by decide +kernel
theorem dX9_countFitting_58 : decode cX9_countFitting 58 = .ok (.istore 8, 2) := by decide +kernel
theorem dX9_countFitting_60 : decode cX9_countFitting 60 = .ok (.iload 8, 2) := by decide +kernel
theorem dX9_countFitting_62 : decode cX9_countFitting 62 = .ok (.iload 4, 2) := by decide +kernel
theorem dX9_countFitting_64 : decode cX9_countFitting 64 = .ok (.if_icmp .ge 81, 3) := by decide +kernel
theorem dX9_countFitting_67 : decode cX9_countFitting 67 = .ok (.iconst 0, 1) := by decide +kernel
theorem dX9_countFitting_68 : decode cX9_countFitting 68 = .ok (.istore 9, 2) := by decide +kernel
theorem dX9_countFitting_70 : decode cX9_countFitting 70 = .ok (.iload 9, 2) := by decide +kernel
theorem dX9_countFitting_72 : decode cX9_countFitting 72 = .ok (.iload 5, 2) := by decide +kernel
theorem dX9_countFitting_74 : decode cX9_countFitting 74 = .ok (.if_icmp .ge 65, 3) := by decide +kernel
theorem dX9_countFitting_77 : decode cX9_countFitting 77 = .ok (.aload_n 0, 1) := by decide +kernel
theorem dX9_countFitting_78 : decode cX9_countFitting 78 = .ok (.iload 7, 2) := by decide +kernel
theorem dX9_countFitting_80 : decode cX9_countFitting 80 = .ok (.iload 8, 2) := by decide +kernel
theorem dX9_countFitting_82 : decode cX9_countFitting 82 = .ok (.iload 9, 2) := by decide +kernel
theorem dX9_countFitting_84 : decode cX9_countFitting 84 = .ok (.iload_n 2, 1) := by decide +kernel
theorem dX9_countFitting_85 : decode cX9_countFitting 85 = .ok (.invokevirtual 44, 3) := by decide +kernel
theorem dX9_countFitting_88 : decode cX9_countFitting 88 = .ok (.ifCond .eq 45, 3) := by decide +kernel
theorem dX9_countFitting_91 : decode cX9_countFitting 91 = .ok (.iinc 6 1, 3) := by decide +kernel
theorem dX9_countFitting_94 : decode cX9_countFitting 94 = .ok (.aload_n 0, 1) := by decide +kernel
theorem dX9_countFitting_95 : decode cX9_countFitting 95 = .ok (.getfield 28, 3) := by decide +kernel
theorem dX9_countFitting_98 : decode cX9_countFitting 98 = .ok (.iload 7, 2) := by decide +kernel
theorem dX9_countFitting_100 : decode cX9_countFitting 100 = .ok (.dup2, 1) := by decide +kernel
theorem dX9_countFitting_101 : decode cX9_countFitting 101 = .ok (.iaload, 1) := by decide +kernel
theorem dX9_countFitting_102 : decode cX9_countFitting 102 = .ok (.iconst 1, 1) := by decide +kernel
theorem dX9_countFitting_103 : decode cX9_countFitting 103 = .ok (.iadd, 1) := by decide +kernel
theorem dX9_countFitting_104 : decode cX9_countFitting 104 = .ok (.iastore, 1) := by decide +kernel
theorem dX9_countFitting_105 : decode cX9_countFitting 105 = .ok (.aload_n 0, 1) := by decide +kernel
theorem dX9_countFitting_106 : decode cX9_countFitting 106 = .ok (.getfield 28, 3) := by decide +kernel
theorem dX9_countFitting_109 : decode cX9_countFitting 109 = .ok (.bipush 6, 2) := by decide +kernel
theorem dX9_countFitting_111 : decode cX9_countFitting 111 = .ok (.iload 8, 2) := by decide +kernel
theorem dX9_countFitting_113 : decode cX9_countFitting 113 = .ok (.iadd, 1) := by decide +kernel
theorem dX9_countFitting_114 : decode cX9_countFitting 114 = .ok (.dup2, 1) := by decide +kernel
theorem dX9_countFitting_115 : decode cX9_countFitting 115 = .ok (.iaload, 1) := by decide +kernel
theorem dX9_countFitting_116 : decode cX9_countFitting 116 = .ok (.iconst 1, 1) := by decide +kernel
theorem dX9_countFitting_117 : decode cX9_countFitting 117 = .ok (.iadd, 1) := by decide +kernel
theorem dX9_countFitting_118 : decode cX9_countFitting 118 = .ok (.iastore, 1) := by decide +kernel
theorem dX9_countFitting_119 : decode cX9_countFitting 119 = .ok (.aload_n 0, 1) := by decide +kernel
theorem dX9_countFitting_120 : decode cX9_countFitting 120 = .ok (.getfield 28, 3) := by decide +kernel
theorem dX9_countFitting_123 : decode cX9_countFitting 123 = .ok (.bipush 12, 2) := by decide +kernel
theorem dX9_countFitting_125 : decode cX9_countFitting 125 = .ok (.iload 9, 2) := by decide +kernel
theorem dX9_countFitting_127 : decode cX9_countFitting 127 = .ok (.iadd, 1) := by decide +kernel
theorem dX9_countFitting_128 : decode cX9_countFitting 128 = .ok (.dup2, 1) := by decide +kernel
theorem dX9_countFitting_129 : decode cX9_countFitting 129 = .ok (.iaload, 1) := by decide +kernel
theorem dX9_countFitting_130 : decode cX9_countFitting 130 = .ok (.iconst 1, 1) := by decide +kernel
theorem dX9_countFitting_131 : decode cX9_countFitting 131 = .ok (.iadd, 1) := by decide +kernel
theorem dX9_countFitting_132 : decode cX9_countFitting 132 = .ok (.iastore, 1) := by decide +kernel
theorem dX9_countFitting_133 : decode cX9_countFitting 133 = .ok (.iinc 9 1, 3) := by decide +kernel
theorem dX9_countFitting_136 : decode cX9_countFitting 136 = .ok (.goto (-66), 3) := by decide +kernel
theorem dX9_countFitting_139 : decode cX9_countFitting 139 = .ok (.iinc 8 1, 3) := by decide +kernel
theorem dX9_countFitting_142 : decode cX9_countFitting 142 = .ok (.goto (-82), 3) := by decide +kernel
theorem dX9_countFitting_145 : decode cX9_countFitting 145 = .ok (.iinc 7 1, 3) := by decide +kernel
theorem dX9_countFitting_148 : decode cX9_countFitting 148 = .ok (.goto (-97), 3) := by decide +kernel
theorem dX9_countFitting_151 : decode cX9_countFitting 151 = .ok (.iload 6, 2) := by decide +kernel
theorem dX9_countFitting_153 : decode cX9_countFitting 153 = .ok (.ireturn, 1) := by decide +kernel
theorem dX9_sureLiking_0 : decode cX9_sureLiking 0 = .ok (.aload_n 0, 1) := by decide +kernel
theorem dX9_sureLiking_1 : decode cX9_sureLiking 1 = .ok (.iload_n 1, 1) := by decide +kernel
theorem dX9_sureLiking_2 : decode cX9_sureLiking 2 = .ok (.iload_n 3, 1) := by decide +kernel
theorem dX9_sureLiking_3 : decode cX9_sureLiking 3 = .ok (.invokevirtual 52, 3) := by decide +kernel
theorem dX9_sureLiking_6 : decode cX9_sureLiking 6 = .ok (.istore 4, 2) := by decide +kernel
theorem dX9_sureLiking_8 : decode cX9_sureLiking 8 = .ok (.iload 4, 2) := by decide +kernel
theorem dX9_sureLiking_10 : decode cX9_sureLiking 10 = .ok (.ifCond .ne 5, 3) := by decide +kernel
theorem dX9_sureLiking_13 : decode cX9_sureLiking 13 = .ok (.iconst (-1), 1) := by decide +kernel
theorem dX9_sureLiking_14 : decode cX9_sureLiking 14 = .ok (.ireturn, 1) := by decide +kernel
theorem dX9_sureLiking_15 : decode cX9_sureLiking 15 = .ok (.iconst 0, 1) := by decide +kernel
theorem dX9_sureLiking_16 : decode cX9_sureLiking 16 = .ok (.istore 5, 2) := by decide +kernel
theorem dX9_sureLiking_18 : decode cX9_sureLiking 18 = .ok (.iload 5, 2) := by decide +kernel
theorem dX9_sureLiking_20 : decode cX9_sureLiking 20 = .ok (.bipush 6, 2) := by decide +kernel
theorem dX9_sureLiking_22 : decode cX9_sureLiking 22 = .ok (.if_icmp .ge 29, 3) := by decide +kernel
theorem dX9_sureLiking_25 : decode cX9_sureLiking 25 = .ok (.aload_n 0, 1) := by decide +kernel
theorem dX9_sureLiking_26 : decode cX9_sureLiking 26 = .ok (.getfield 28, 3) := by decide +kernel
theorem dX9_sureLiking_29 : decode cX9_sureLiking 29 = .ok (.iload_n 2, 1) := by decide +kernel
theorem dX9_sureLiking_30 : decode cX9_sureLiking 30 = .ok (.bipush 6, 2) := by decide +kernel
theorem dX9_sureLiking_32 : decode cX9_sureLiking 32 = .ok (.imul, 1) := by decide +kernel
theorem dX9_sureLiking_33 : decode cX9_sureLiking 33 = .ok (.iload 5, 2) := by decide +kernel
theorem dX9_sureLiking_35 : decode cX9_sureLiking 35 = .ok (.iadd, 1) := by decide +kernel
theorem dX9_sureLiking_36 : decode cX9_sureLiking 36 = .ok (.iaload, 1) := by decide +kernel
theorem dX9_sureLiking_37 : decode cX9_sureLiking 37 = .ok (.iload 4, 2) := by decide +kernel
theorem dX9_sureLiking_39 : decode cX9_sureLiking 39 = .ok (.if_icmp .ne 6, 3) := by decide +kernel
theorem dX9_sureLiking_42 : decode cX9_sureLiking 42 = .ok (.iload 5, 2) := by decide +kernel
theorem dX9_sureLiking_44 : decode cX9_sureLiking 44 = .ok (.ireturn, 1) := by decide +kernel
theorem dX9_sureLiking_45 : decode cX9_sureLiking 45 = .ok (.iinc 5 1, 3) := by decide +kernel
theorem dX9_sureLiking_48 : decode cX9_sureLiking 48 = .ok (.goto (-30), 3) := by decide +kernel
theorem dX9_sureLiking_51 : decode cX9_sureLiking 51 = .ok (.bipush (-2), 2) := by decide +kernel
theorem dX9_sureLiking_53 : decode cX9_sureLiking 53 = .ok (.ireturn, 1) := by decide +kernel
theorem dX9_fullBy_0 : decode cX9_fullBy 0 = .ok (.iconst 0, 1) := by decide +kernel
theorem dX9_fullBy_1 : decode cX9_fullBy 1 = .ok (.istore 4, 2) := by decide +kernel
theorem dX9_fullBy_3 : decode cX9_fullBy 3 = .ok (.iconst 0, 1) := by decide +kernel
theorem dX9_fullBy_4 : decode cX9_fullBy 4 = .ok (.istore 5, 2) := by decide +kernel
theorem dX9_fullBy_6 : decode cX9_fullBy 6 = .ok (.iload 5, 2) := by decide +kernel
theorem dX9_fullBy_8 : decode cX9_fullBy 8 = .ok (.bipush 6, 2) := by decide +kernel
theorem dX9_fullBy_10 : decode cX9_fullBy 10 = .ok (.if_icmp .ge 34, 3) := by decide +kernel
theorem dX9_fullBy_13 : decode cX9_fullBy 13 = .ok (.iload 5, 2) := by decide +kernel
theorem dX9_fullBy_15 : decode cX9_fullBy 15 = .ok (.iload_n 2, 1) := by decide +kernel
theorem dX9_fullBy_16 : decode cX9_fullBy 16 = .ok (.imul, 1) := by decide +kernel
theorem dX9_fullBy_17 : decode cX9_fullBy 17 = .ok (.iload_n 3, 1) := by decide +kernel
theorem dX9_fullBy_18 : decode cX9_fullBy 18 = .ok (.if_icmp .lt 20, 3) := by decide +kernel
theorem dX9_fullBy_21 : decode cX9_fullBy 21 = .ok (.iload 4, 2) := by decide +kernel
theorem dX9_fullBy_23 : decode cX9_fullBy 23 = .ok (.aload_n 0, 1) := by decide +kernel
theorem dX9_fullBy_24 : decode cX9_fullBy 24 = .ok (.getfield 28, 3) := by decide +kernel
theorem dX9_fullBy_27 : decode cX9_fullBy 27 = .ok (.iload_n 1, 1) := by decide +kernel
theorem dX9_fullBy_28 : decode cX9_fullBy 28 = .ok (.bipush 6, 2) := by decide +kernel
theorem dX9_fullBy_30 : decode cX9_fullBy 30 = .ok (.imul, 1) := by decide +kernel
theorem dX9_fullBy_31 : decode cX9_fullBy 31 = .ok (.iload 5, 2) := by decide +kernel
theorem dX9_fullBy_33 : decode cX9_fullBy 33 = .ok (.iadd, 1) := by decide +kernel
theorem dX9_fullBy_34 : decode cX9_fullBy 34 = .ok (.iaload, 1) := by decide +kernel
theorem dX9_fullBy_35 : decode cX9_fullBy 35 = .ok (.iadd, 1) := by decide +kernel
theorem dX9_fullBy_36 : decode cX9_fullBy 36 = .ok (.istore 4, 2) := by decide +kernel
theorem dX9_fullBy_38 : decode cX9_fullBy 38 = .ok (.iinc 5 1, 3) := by decide +kernel
theorem dX9_fullBy_41 : decode cX9_fullBy 41 = .ok (.goto (-35), 3) := by decide +kernel
theorem dX9_fullBy_44 : decode cX9_fullBy 44 = .ok (.iload 4, 2) := by decide +kernel
theorem dX9_fullBy_46 : decode cX9_fullBy 46 = .ok (.ireturn, 1) := by decide +kernel
theorem dX9_nextTrial_0 : decode cX9_nextTrial 0 = .ok (.aload_n 0, 1) := by decide +kernel
theorem dX9_nextTrial_1 : decode cX9_nextTrial 1 = .ok (.iload_n 1, 1) := by decide +kernel
theorem dX9_nextTrial_2 : decode cX9_nextTrial 2 = .ok (.iload 4, 2) := by decide +kernel
theorem dX9_nextTrial_4 : decode cX9_nextTrial 4 = .ok (.invokevirtual 52, 3) := by decide +kernel
theorem dX9_nextTrial_7 : decode cX9_nextTrial 7 = .ok (.istore 5, 2) := by decide +kernel
theorem dX9_nextTrial_9 : decode cX9_nextTrial 9 = .ok (.iload 5, 2) := by decide +kernel
theorem dX9_nextTrial_11 : decode cX9_nextTrial 11 = .ok (.ifCond .ne 5, 3) := by decide +kernel
theorem dX9_nextTrial_14 : decode cX9_nextTrial 14 = .ok (.iconst (-1), 1) := by decide +kernel
theorem dX9_nextTrial_15 : decode cX9_nextTrial 15 = .ok (.ireturn, 1) := by decide +kernel
theorem dX9_nextTrial_16 : decode cX9_nextTrial 16 = .ok (.iconst (-1), 1) := by decide +kernel
theorem dX9_nextTrial_17 : decode cX9_nextTrial 17 = .ok (.istore 6, 2) := by decide +kernel
theorem dX9_nextTrial_19 : decode cX9_nextTrial 19 = .ok (.iload 5, 2) := by decide +kernel
theorem dX9_nextTrial_21 : decode cX9_nextTrial 21 = .ok (.iconst 1, 1) := by decide +kernel
theorem dX9_nextTrial_22 : decode cX9_nextTrial 22 = .ok (.iadd, 1) := by decide +kernel
theorem dX9_nextTrial_23 : decode cX9_nextTrial 23 = .ok (.istore 7, 2) := by decide +kernel
theorem dX9_nextTrial_25 : decode cX9_nextTrial 25 = .ok (.iconst 0, 1) := by decide +kernel
theorem dX9_nextTrial_26 : decode cX9_nextTrial 26 = .ok (.istore 8, 2) := by decide +kernel
theorem dX9_nextTrial_28 : decode cX9_nextTrial 28 = .ok (.iload 8, 2) := by decide +kernel
theorem dX9_nextTrial_30 : decode cX9_nextTrial 30 = .ok (.iload_n 1, 1) := by decide +kernel
theorem dX9_nextTrial_31 : decode cX9_nextTrial 31 = .ok (.if_icmp .ge 69, 3) := by decide +kernel
theorem dX9_nextTrial_34 : decode cX9_nextTrial 34 = .ok (.iconst 1, 1) := by decide +kernel
theorem dX9_nextTrial_35 : decode cX9_nextTrial 35 = .ok (.istore 9, 2) := by decide +kernel
theorem dX9_nextTrial_37 : decode cX9_nextTrial 37 = .ok (.iload 9, 2) := by decide +kernel
theorem dX9_nextTrial_39 : decode cX9_nextTrial 39 = .ok (.bipush 9, 2) := by decide +kernel
theorem dX9_nextTrial_41 : decode cX9_nextTrial 41 = .ok (.if_icmp .gt 53, 3) := by decide +kernel
theorem dX9_nextTrial_44 : decode cX9_nextTrial 44 = .ok (.aload_n 0, 1) := by decide +kernel
theorem dX9_nextTrial_45 : decode cX9_nextTrial 45 = .ok (.iload 8, 2) := by decide +kernel
theorem dX9_nextTrial_47 : decode cX9_nextTrial 47 = .ok (.iload 9, 2) := by decide +kernel
theorem dX9_nextTrial_49 : decode cX9_nextTrial 49 = .ok (.iload_n 2, 1) := by decide +kernel
theorem dX9_nextTrial_50 : decode cX9_nextTrial 50 = .ok (.invokevirtual 56, 3) := by decide +kernel
theorem dX9_nextTrial_53 : decode cX9_nextTrial 53 = .ok (.istore 10, 2) := by decide +kernel
theorem dX9_nextTrial_55 : decode cX9_nextTrial 55 = .ok (.iload 10, 2) := by decide +kernel
theorem dX9_nextTrial_57 : decode cX9_nextTrial 57 = .ok (.iload 5, 2) := by decide +kernel
theorem dX9_nextTrial_59 : decode cX9_nextTrial 59 = .ok (.iload 10, 2) := by decide +kernel
theorem dX9_nextTrial_61 : decode cX9_nextTrial 61 = .ok (.isub, 1) := by decide +kernel
theorem dX9_nextTrial_62 : decode cX9_nextTrial 62 = .ok (.invokestatic 60, 3) := by decide +kernel
theorem dX9_nextTrial_65 : decode cX9_nextTrial 65 = .ok (.istore 11, 2) := by decide +kernel
theorem dX9_nextTrial_67 : decode cX9_nextTrial 67 = .ok (.iload 11, 2) := by decide +kernel
theorem dX9_nextTrial_69 : decode cX9_nextTrial 69 = .ok (.iload 7, 2) := by decide +kernel
theorem dX9_nextTrial_71 : decode cX9_nextTrial 71 = .ok (.if_icmp .ge 17, 3) := by decide +kernel
theorem dX9_nextTrial_74 : decode cX9_nextTrial 74 = .ok (.iload 11, 2) := by decide +kernel
theorem dX9_nextTrial_76 : decode cX9_nextTrial 76 = .ok (.istore 7, 2) := by decide +kernel
theorem dX9_nextTrial_78 : decode cX9_nextTrial 78 = .ok (.bipush 10, 2) := by decide +kernel
theorem dX9_nextTrial_80 : decode cX9_nextTrial 80 = .ok (.iload 8, 2) := by decide +kernel
theorem dX9_nextTrial_82 : decode cX9_nextTrial 82 = .ok (.imul, 1) := by decide +kernel
theorem dX9_nextTrial_83 : decode cX9_nextTrial 83 = .ok (.iload 9, 2) := by decide +kernel
theorem dX9_nextTrial_85 : decode cX9_nextTrial 85 = .ok (.iadd, 1) := by decide +kernel
theorem dX9_nextTrial_86 : decode cX9_nextTrial 86 = .ok (.istore 6, 2) := by decide +kernel
theorem dX9_nextTrial_88 : decode cX9_nextTrial 88 = .ok (.iinc 9 1, 3) := by decide +kernel
theorem dX9_nextTrial_91 : decode cX9_nextTrial 91 = .ok (.goto (-54), 3) := by decide +kernel
theorem dX9_nextTrial_94 : decode cX9_nextTrial 94 = .ok (.iinc 8 1, 3) := by decide +kernel
theorem dX9_nextTrial_97 : decode cX9_nextTrial 97 = .ok (.goto (-69), 3) := by decide +kernel
theorem dX9_nextTrial_100 : decode cX9_nextTrial 100 = .ok (.iload_n 3, 1) := by decide +kernel
theorem dX9_nextTrial_101 : decode cX9_nextTrial 101 = .ok (.ifCond .ne 8, 3) := by decide +kernel
theorem dX9_nextTrial_104 : decode cX9_nextTrial 104 = .ok (.iload 6, 2) := by decide +kernel
theorem dX9_nextTrial_106 : decode cX9_nextTrial 106 = .ok (.goto 5, 3) := by decide +kernel
theorem dX9_nextTrial_109 : decode cX9_nextTrial 109 = .ok (.iload 7, 2) := by decide +kernel
theorem dX9_nextTrial_111 : decode cX9_nextTrial 111 = .ok (.ireturn, 1) := by decide +kernel
theorem dX10_feed_0 : decode cX10_feed 0 = .ok (.aload_n 0, 1) := by decide +kernel
theorem dX10_feed_1 : decode cX10_feed 1 = .ok (.getfield 12, 3) := by decide +kernel
theorem dX10_feed_4 : decode cX10_feed 4 = .ok (.getfield 82, 3) := by decide +kernel
theorem dX10_feed_7 : decode cX10_feed 7 = .ok (.bipush 20, 2) := by decide +kernel
theorem dX10_feed_9 : decode cX10_feed 9 = .ok (.iadd, 1) := by decide +kernel
theorem dX10_feed_10 : decode cX10_feed 10 = .ok (.sipush 1600, 3) := by decide +kernel
theorem dX10_feed_13 : decode cX10_feed 13 = .ok (.if_icmp .le 5, 3) := by decide +kernel
theorem dX10_feed_16 : decode cX10_feed 16 = .ok (.iconst (-1), 1) := by decide +kernel
theorem dX10_feed_17 : decode cX10_feed 17 = .ok (.ireturn, 1) := by decide +kernel
theorem dX10_feed_18 : decode cX10_feed 18 = .ok (.aload_n 0, 1) := by decide +kernel
theorem dX10_feed_19 : decode cX10_feed 19 = .ok (.getfield 12, 3) := by decide +kernel
theorem dX10_feed_22 : decode cX10_feed 22 = .ok (.iload_n 1, 1) := by decide +kernel
theorem dX10_feed_23 : decode cX10_feed 23 = .ok (.invokevirtual 85, 3) := by decide +kernel
theorem dX10_feed_26 : decode cX10_feed 26 = .ok (.aload_n 0, 1) := by decide +kernel
theorem dX10_feed_27 : decode cX10_feed 27 = .ok (.getfield 12, 3) := by decide +kernel
theorem dX10_feed_30 : decode cX10_feed 30 = .ok (.iload_n 2, 1) := by decide +kernel
theorem dX10_feed_31 : decode cX10_feed 31 = .ok (.invokevirtual 85, 3) := by decide +kernel
theorem dX10_feed_34 : decode cX10_feed 34 = .ok (.aload_n 0, 1) := by decide +kernel
theorem dX10_feed_35 : decode cX10_feed 35 = .ok (.getfield 12, 3) := by decide +kernel
theorem dX10_feed_38 : decode cX10_feed 38 = .ok (.iload_n 3, 1) := by decide +kernel
theorem dX10_feed_39 : decode cX10_feed 39 = .ok (.invokevirtual 85, 3) := by decide +kernel
theorem dX10_feed_42 : decode cX10_feed 42 = .ok (.aload_n 0, 1) := by decide +kernel
theorem dX10_feed_43 : decode cX10_feed 43 = .ok (.getfield 12, 3) := by decide +kernel
theorem dX10_feed_46 : decode cX10_feed 46 = .ok (.iload 4, 2) := by decide +kernel
theorem dX10_feed_48 : decode cX10_feed 48 = .ok (.invokevirtual 85, 3) := by decide +kernel
theorem dX10_feed_51 : decode cX10_feed 51 = .ok (.aload_n 0, 1) := by decide +kernel
theorem dX10_feed_52 : decode cX10_feed 52 = .ok (.getfield 12, 3) := by decide +kernel
theorem dX10_feed_55 : decode cX10_feed 55 = .ok (.iload 5, 2) := by decide +kernel
theorem dX10_feed_57 : decode cX10_feed 57 = .ok (.invokevirtual 85, 3) := by decide +kernel
theorem dX10_feed_60 : decode cX10_feed 60 = .ok (.aload_n 0, 1) := by decide +kernel
theorem dX10_feed_61 : decode cX10_feed 61 = .ok (.getfield 12, 3) := by decide +kernel
theorem dX10_feed_64 : decode cX10_feed 64 = .ok (.getfield 82, 3) := by decide +kernel
theorem dX10_feed_67 : decode cX10_feed 67 = .ok (.ireturn, 1) := by decide +kernel
theorem dX10_end_0 : decode cX10_end 0 = .ok (.iload_n 1, 1) := by decide +kernel
theorem dX10_end_1 : decode cX10_end 1 = .ok (.ifCond .lt 14, 3) := by decide +kernel
theorem dX10_end_4 : decode cX10_end 4 = .ok (.iload_n 1, 1) := by decide +kernel
theorem dX10_end_5 : decode cX10_end 5 = .ok (.aload_n 0, 1) := by decide +kernel
theorem dX10_end_6 : decode cX10_end 6 = .ok (.getfield 12, 3) := by decide +kernel
theorem dX10_end_9 : decode cX10_end 9 = .ok (.getfield 82, 3) := by decide +kernel
theorem dX10_end_12 : decode cX10_end 12 = .ok (.if_icmp .le 5, 3) := by decide +kernel
theorem dX10_end_15 : decode cX10_end 15 = .ok (.iconst (-1), 1) := by decide +kernel
theorem dX10_end_16 : decode cX10_end 16 = .ok (.ireturn, 1) := by decide +kernel
theorem dX10_end_17 : decode cX10_end 17 = .ok (.aload_n 0, 1) := by decide +kernel
theorem dX10_end_18 : decode cX10_end 18 = .ok (.getfield 12, 3) := by decide +kernel
theorem dX10_end_21 : decode cX10_end 21 = .ok (.iload_n 1, 1) := by decide +kernel
theorem dX10_end_22 : decode cX10_end 22 = .ok (.putfield 82, 3) := by decide +kernel
theorem dX10_end_25 : decode cX10_end 25 = .ok (.iload_n 1, 1) := by decide +kernel
theorem dX10_end_26 : decode cX10_end 26 = .ok (.ireturn, 1) := by decide +kernel
theorem dX10_fault_0 : decode cX10_fault 0 = .ok (.iload_n 1, 1) := by decide +kernel
theorem dX10_fault_1 : decode cX10_fault 1 = .ok (.ifCond .ne 11, 3) := by decide +kernel
theorem dX10_fault_4 : decode cX10_fault 4 = .ok (.aload_n 0, 1) := by decide +kernel
theorem dX10_fault_5 : decode cX10_fault 5 = .ok (.getfield 21, 3) := by decide +kernel
theorem dX10_fault_8 : decode cX10_fault 8 = .ok (.getfield 117, 3) := by decide +kernel
theorem dX10_fault_11 : decode cX10_fault 11 = .ok (.ireturn, 1) := by decide +kernel
theorem dX10_fault_12 : decode cX10_fault 12 = .ok (.iload_n 1, 1) := by decide +kernel
theorem dX10_fault_13 : decode cX10_fault 13 = .ok (.iconst 1, 1) := by decide +kernel
theorem dX10_fault_14 : decode cX10_fault 14 = .ok (.if_icmp .ne 13, 3) := by decide +kernel
theorem dX10_fault_17 : decode cX10_fault 17 = .ok (.aload_n 0, 1) := by decide +kernel
theorem dX10_fault_18 : decode cX10_fault 18 = .ok (.getfield 21, 3) := by decide +kernel
theorem dX10_fault_21 : decode cX10_fault 21 = .ok (.getfield 120, 3) := by decide +kernel
theorem dX10_fault_24 : decode cX10_fault 24 = .ok (.goto 4, 3) := by decide +kernel
theorem dX10_fault_27 : decode cX10_fault 27 = .ok (.iconst (-1), 1) := by decide +kernel
theorem dX10_fault_28 : decode cX10_fault 28 = .ok (.ireturn, 1) := by decide +kernel
theorem dX10_isFood_0 : decode cX10_isFood 0 = .ok (.iload_n 1, 1) := by decide +kernel
theorem dX10_isFood_1 : decode cX10_isFood 1 = .ok (.ifCond .lt 18, 3) := by decide +kernel
theorem dX10_isFood_4 : decode cX10_isFood 4 = .ok (.iload_n 1, 1) := by decide +kernel
theorem dX10_isFood_5 : decode cX10_isFood 5 = .ok (.aload_n 0, 1) := by decide +kernel
theorem dX10_isFood_6 : decode cX10_isFood 6 = .ok (.getfield 28, 3) := by decide +kernel
theorem dX10_isFood_9 : decode cX10_isFood 9 = .ok (.getfield 263, 3) := by decide +kernel
theorem dX10_isFood_12 : decode cX10_isFood 12 = .ok (.if_icmp .ge 7, 3) := by decide +kernel
theorem dX10_isFood_15 : decode cX10_isFood 15 = .ok (.iconst 1, 1) := by decide +kernel
theorem dX10_isFood_16 : decode cX10_isFood 16 = .ok (.goto 4, 3) := by decide +kernel
theorem dX10_isFood_19 : decode cX10_isFood 19 = .ok (.iconst 0, 1) := by decide +kernel
theorem dX10_isFood_20 : decode cX10_isFood 20 = .ok (.ireturn, 1) := by decide +kernel
theorem dX10_store_0 : decode cX10_store 0 = .ok (.aload_n 0, 1) := by decide +kernel
theorem dX10_store_1 : decode cX10_store 1 = .ok (.iload_n 1, 1) := by decide +kernel
theorem dX10_store_2 : decode cX10_store 2 = .ok (.invokevirtual 123, 3) := by decide +kernel
theorem dX10_store_5 : decode cX10_store 5 = .ok (.ifCond .eq 20, 3) := by decide +kernel
theorem dX10_store_8 : decode cX10_store 8 = .ok (.aload_n 0, 1) := by decide +kernel
theorem dX10_store_9 : decode cX10_store 9 = .ok (.getfield 44, 3) := by decide +kernel
theorem dX10_store_12 : decode cX10_store 12 = .ok (.invokevirtual 127, 3) := by decide +kernel
theorem dX10_store_15 : decode cX10_store 15 = .ok (.getfield 131, 3) := by decide +kernel
theorem dX10_store_18 : decode cX10_store 18 = .ok (.iconst 0, 1) := by decide +kernel
theorem dX10_store_19 : decode cX10_store 19 = .ok (.iload_n 1, 1) := by decide +kernel
theorem dX10_store_20 : decode cX10_store 20 = .ok (.iadd, 1) := by decide +kernel
theorem dX10_store_21 : decode cX10_store 21 = .ok (.iaload, 1) := by decide +kernel
theorem dX10_store_22 : decode cX10_store 22 = .ok (.goto 4, 3) := by decide +kernel
theorem dX10_store_25 : decode cX10_store 25 = .ok (.iconst (-1), 1) := by decide +kernel
theorem dX10_store_26 : decode cX10_store 26 = .ok (.ireturn, 1) := by decide +kernel
theorem dX10_isMap_0 : decode cX10_isMap 0 = .ok (.iload_n 1, 1) := by decide +kernel
theorem dX10_isMap_1 : decode cX10_isMap 1 = .ok (.ifCond .lt 18, 3) := by decide +kernel
theorem dX10_isMap_4 : decode cX10_isMap 4 = .ok (.iload_n 1, 1) := by decide +kernel
theorem dX10_isMap_5 : decode cX10_isMap 5 = .ok (.aload_n 0, 1) := by decide +kernel
theorem dX10_isMap_6 : decode cX10_isMap 6 = .ok (.getfield 28, 3) := by decide +kernel
theorem dX10_isMap_9 : decode cX10_isMap 9 = .ok (.getfield 114, 3) := by decide +kernel
theorem dX10_isMap_12 : decode cX10_isMap 12 = .ok (.if_icmp .ge 7, 3) := by decide +kernel
theorem dX10_isMap_15 : decode cX10_isMap 15 = .ok (.iconst 1, 1) := by decide +kernel
theorem dX10_isMap_16 : decode cX10_isMap 16 = .ok (.goto 4, 3) := by decide +kernel
theorem dX10_isMap_19 : decode cX10_isMap 19 = .ok (.iconst 0, 1) := by decide +kernel
theorem dX10_isMap_20 : decode cX10_isMap 20 = .ok (.ireturn, 1) := by decide +kernel
theorem dX10_map_0 : decode cX10_map 0 = .ok (.aload_n 0, 1) := by decide +kernel
theorem dX10_map_1 : decode cX10_map 1 = .ok (.iload_n 1, 1) := by decide +kernel
theorem dX10_map_2 : decode cX10_map 2 = .ok (.invokevirtual 135, 3) := by decide +kernel
theorem dX10_map_5 : decode cX10_map 5 = .ok (.ifCond .ne 5, 3) := by decide +kernel
theorem dX10_map_8 : decode cX10_map 8 = .ok (.iconst (-1), 1) := by decide +kernel
theorem dX10_map_9 : decode cX10_map 9 = .ok (.ireturn, 1) := by decide +kernel
theorem dX10_map_10 : decode cX10_map 10 = .ok (.aload_n 0, 1) := by decide +kernel
theorem dX10_map_11 : decode cX10_map 11 = .ok (.getfield 44, 3) := by decide +kernel
theorem dX10_map_14 : decode cX10_map 14 = .ok (.invokevirtual 127, 3) := by decide +kernel
theorem dX10_map_17 : decode cX10_map 17 = .ok (.astore_n 3, 1) := by decide +kernel
theorem dX10_map_18 : decode cX10_map 18 = .ok (.iload_n 2, 1) := by decide +kernel
theorem dX10_map_19 : decode cX10_map 19 = .ok (.tableswitch 127 0 7 #[45, 55, 65, 75, 85, 97, 107, 117], 45) := by decide +kernel
theorem dX10_map_64 : decode cX10_map 64 = .ok (.aload_n 0, 1) := by decide +kernel
theorem dX10_map_65 : decode cX10_map 65 = .ok (.getfield 28, 3) := by decide +kernel
theorem dX10_map_68 : decode cX10_map 68 = .ok (.getfield 138, 3) := by decide +kernel
theorem dX10_map_71 : decode cX10_map 71 = .ok (.iload_n 1, 1) := by decide +kernel
theorem dX10_map_72 : decode cX10_map 72 = .ok (.iaload, 1) := by decide +kernel
theorem dX10_map_73 : decode cX10_map 73 = .ok (.ireturn, 1) := by decide +kernel
theorem dX10_map_74 : decode cX10_map 74 = .ok (.aload_n 0, 1) := by decide +kernel
theorem dX10_map_75 : decode cX10_map 75 = .ok (.getfield 37, 3) := by decide +kernel
theorem dX10_map_78 : decode cX10_map 78 = .ok (.aload_n 3, 1) := by decide +kernel
theorem dX10_map_79 : decode cX10_map 79 = .ok (.iload_n 1, 1) := by decide +kernel
theorem dX10_map_80 : decode cX10_map 80 = .ok (.invokevirtual 141, 3) := by decide +kernel
theorem dX10_map_83 : decode cX10_map 83 = .ok (.ireturn, 1) := by decide +kernel
theorem dX10_map_84 : decode cX10_map 84 = .ok (.aload_n 0, 1) := by decide +kernel
theorem dX10_map_85 : decode cX10_map 85 = .ok (.getfield 37, 3) := by decide +kernel
theorem dX10_map_88 : decode cX10_map 88 = .ok (.aload_n 3, 1) := by decide +kernel
theorem dX10_map_89 : decode cX10_map 89 = .ok (.iload_n 1, 1) := by decide +kernel
theorem dX10_map_90 : decode cX10_map 90 = .ok (.invokevirtual 145, 3) := by decide +kernel
theorem dX10_map_93 : decode cX10_map 93 = .ok (.ireturn, 1) := by decide +kernel
theorem dX10_map_94 : decode cX10_map 94 = .ok (.aload_n 3, 1) := by decide +kernel
theorem dX10_map_95 : decode cX10_map 95 = .ok (.getfield 131, 3) := by decide +kernel
theorem dX10_map_98 : decode cX10_map 98 = .ok (.bipush 31, 2) := by decide +kernel
theorem dX10_map_100 : decode cX10_map 100 = .ok (.iload_n 1, 1) := by decide +kernel
theorem dX10_map_101 : decode cX10_map 101 = .ok (.iadd, 1) := by decide +kernel
theorem dX10_map_102 : decode cX10_map 102 = .ok (.iaload, 1) := by decide +kernel
theorem dX10_map_103 : decode cX10_map 103 = .ok (.ireturn, 1) := by decide +kernel
theorem dX10_map_104 : decode cX10_map 104 = .ok (.aload_n 3, 1) := by decide +kernel
theorem dX10_map_105 : decode cX10_map 105 = .ok (.getfield 131, 3) := by decide +kernel
theorem dX10_map_108 : decode cX10_map 108 = .ok (.bipush 39, 2) := by decide +kernel
theorem dX10_map_110 : decode cX10_map 110 = .ok (.iaload, 1) := by decide +kernel
theorem dX10_map_111 : decode cX10_map 111 = .ok (.iload_n 1, 1) := by decide +kernel
theorem dX10_map_112 : decode cX10_map 112 = .ok (.ishr, 1) := by decide +kernel
theorem dX10_map_113 : decode cX10_map 113 = .ok (.iconst 1, 1) := by decide +kernel
theorem dX10_map_114 : decode cX10_map 114 = .ok (.iand, 1) := by decide +kernel
theorem dX10_map_115 : decode cX10_map 115 = .ok (.ireturn, 1) := by decide +kernel
theorem dX10_map_116 : decode cX10_map 116 = .ok (.aload_n 3, 1) := by decide +kernel
theorem dX10_map_117 : decode cX10_map 117 = .ok (.getfield 131, 3) := by decide +kernel
theorem dX10_map_120 : decode cX10_map 120 = .ok (.bipush 35, 2) := by decide +kernel
theorem dX10_map_122 : decode cX10_map 122 = .ok (.iload_n 1, 1) := by decide +kernel
theorem dX10_map_123 : decode cX10_map 123 = .ok (.iadd, 1) := by decide +kernel
theorem dX10_map_124 : decode cX10_map 124 = .ok (.iaload, 1) := by decide +kernel
theorem dX10_map_125 : decode cX10_map 125 = .ok (.ireturn, 1) := by decide +kernel
theorem dX10_map_126 : decode cX10_map 126 = .ok (.aload_n 0, 1) := by decide +kernel
theorem dX10_map_127 : decode cX10_map 127 = .ok (.getfield 28, 3) := by decide +kernel
theorem dX10_map_130 : decode cX10_map 130 = .ok (.getfield 148, 3) := by decide +kernel
theorem dX10_map_133 : decode cX10_map 133 = .ok (.iload_n 1, 1) := by decide +kernel
theorem dX10_map_134 : decode cX10_map 134 = .ok (.iaload, 1) := by decide +kernel
theorem dX10_map_135 : decode cX10_map 135 = .ok (.ireturn, 1) := by decide +kernel
theorem dX10_map_136 : decode cX10_map 136 = .ok (.aload_n 0, 1) := by decide +kernel
theorem dX10_map_137 : decode cX10_map 137 = .ok (.getfield 28, 3) := by decide +kernel
theorem dX10_map_140 : decode cX10_map 140 = .ok (.getfield 151, 3) := by decide +kernel
theorem dX10_map_143 : decode cX10_map 143 = .ok (.iload_n 1, 1) := by decide +kernel
theorem dX10_map_144 : decode cX10_map 144 = .ok (.iaload, 1) := by decide +kernel
theorem dX10_map_145 : decode cX10_map 145 = .ok (.ireturn, 1) := by decide +kernel
theorem dX10_map_146 : decode cX10_map 146 = .ok (.iconst (-1), 1) := by decide +kernel
theorem dX10_map_147 : decode cX10_map 147 = .ok (.ireturn, 1) := by decide +kernel
theorem dX10_isPlace_0 : decode cX10_isPlace 0 = .ok (.iload_n 1, 1) := by decide +kernel
theorem dX10_isPlace_1 : decode cX10_isPlace 1 = .ok (.ifCond .lt 18, 3) := by decide +kernel
theorem dX10_isPlace_4 : decode cX10_isPlace 4 = .ok (.iload_n 1, 1) := by decide +kernel
theorem dX10_isPlace_5 : decode cX10_isPlace 5 = .ok (.aload_n 0, 1) := by decide +kernel
theorem dX10_isPlace_6 : decode cX10_isPlace 6 = .ok (.getfield 28, 3) := by decide +kernel
theorem dX10_isPlace_9 : decode cX10_isPlace 9 = .ok (.getfield 219, 3) := by decide +kernel
theorem dX10_isPlace_12 : decode cX10_isPlace 12 = .ok (.if_icmp .ge 7, 3) := by decide +kernel
theorem dX10_isPlace_15 : decode cX10_isPlace 15 = .ok (.iconst 1, 1) := by decide +kernel
theorem dX10_isPlace_16 : decode cX10_isPlace 16 = .ok (.goto 4, 3) := by decide +kernel
theorem dX10_isPlace_19 : decode cX10_isPlace 19 = .ok (.iconst 0, 1) := by decide +kernel
theorem dX10_isPlace_20 : decode cX10_isPlace 20 = .ok (.ireturn, 1) := by decide +kernel
set_option maxRecDepth 100000 in
theorem m_X8_addToken (l : Launch) (D : va_G) (cT : Nat → ClassId) (T : Nat → Option Nat) (q : Nat → Int) (hq : qok q) (a0 : Nat) (t0 : T a0 = some 1) (y1 : Int32) (j1 : IV y1 (-2147483648) 2147483647) (y2 : Int32) (j2 : IV y2 (-2147483648) 2147483647) (y3 : Int64) : th_Met l D cT T (kd q) yX8_addToken cX8_addToken 5 none (rmk 0 0) [.ref a0, .int y1, .int y2, .long y3] (th_R T none) [1, 12, 13, 14] := by
  refine th_start (by decide) (Nat.le_of_ble_eq_true rfl) ?_
  intro p e s m below meth c ls S hK hH hr hlocks hnm hl
  have hx := S.1
  have hb := S.2.1
  have hl : lv_has ls 5 [(0, .ref a0), (1, .int y1), (2, .int y2), (3, .long y3)] := hl
  have J52 : ∀ (H : Heap) (locs : List Loc) (ls : Array Slot) (u52_a0_5 : Int32), IV u52_a0_5 1 1601 → th_fa D H a0 8 5 (.int u52_a0_5) → th_H D cT T (kd q) H → va_S (th_A T [1, 12, 13, 14]) s.heap H locs → lv_has ls 5 [] → W p l e (rmk 0 0) s m [.ref a0, .int y1, .int y2, .long y3].toArray below meth c H locs 0 0 (MQ below (th_Q D cT T (kd q) (th_R T none) [1, 12, 13, 14]) [.ref a0, .int y1, .int y2, .long y3].toArray s 0 0 (th_A T [1, 12, 13, 14])) (F0 m 52 ls []) := by
    intro H locs ls u52_a0_5 iu52_a0_5 gu52_a0_5 hH hS hl
    exact th_vret S hK hH hS hr hlocks rfl dX8_addToken_52
  have J0 : ∀ (H : Heap) (locs : List Loc) (ls : Array Slot), th_H D cT T (kd q) H → va_S (th_A T [1, 12, 13, 14]) s.heap H locs → lv_has ls 5 [(0, .ref a0), (1, .int y1), (2, .int y2), (3, .long y3)] → W p l e (rmk 0 0) s m [.ref a0, .int y1, .int y2, .long y3].toArray below meth c H locs 0 0 (MQ below (th_Q D cT T (kd q) (th_R T none) [1, 12, 13, 14]) [.ref a0, .int y1, .int y2, .long y3].toArray s 0 0 (th_A T [1, 12, 13, 14])) (F0 m 0 ls []) := by
    intro H locs ls hH hS hl
    refine lv_aload_n hx hb dX8_addToken_0 rfl (lv_at hl 0 rfl) ?_
    refine th_get S hK hH inG8 t0 kd_1 rfl 5 (by decide) gm_158 rfl rfl dX8_addToken_1 (fun v1 hv1 fv1 => ?_)
    obtain ⟨x2, rfl, ix2⟩ := th_V.int hv1
    refine lv_aload_n hx hb dX8_addToken_4 rfl (lv_at hl 0 rfl) ?_
    refine th_get S hK hH inG8 t0 kd_1 rfl 1 (by decide) gm_149 rfl rfl dX8_addToken_5 (fun v3 hv3 fv3 => ?_)
    obtain ⟨rf4, rfl, trf4⟩ := th_V.ref hv3
    refine th_alen S hK hH trf4 kd_12 rfl (v := 1601) (by decide) dX8_addToken_8 ?_
    refine lv_icmp_ge (tgt := 52) hx hb dX8_addToken_9 (by decide) (fun c5 => ?_) (fun c5 => ?_)
    · skip
      have ir6 : IV x2 1601 1601 := iv_vR (iv_c (by decide) : IV 1601 1601 1601) ix2 (iv_le c5) (by decide)
      exact J52 H locs ls x2 (iv_w ir6 (by decide)) fv1 hH hS (lv_sub hl [] rfl)
    · skip
      have ir7 : IV x2 0 1600 := iv_uL ix2 (iv_c (by decide) : IV 1601 1601 1601) (iv_nle c5) (by decide)
      refine lv_aload_n hx hb dX8_addToken_12 rfl (lv_at hl 0 rfl) ?_
      refine th_getK S hK fv3 inG8 rfl (by decide) gm_149 rfl dX8_addToken_13 ?_
      refine lv_aload_n hx hb dX8_addToken_16 rfl (lv_at hl 0 rfl) ?_
      refine th_getK S hK fv1 inG8 rfl (by decide) gm_158 rfl dX8_addToken_17 ?_
      refine lv_iload_n hx hb dX8_addToken_20 rfl (lv_at hl 1 rfl) ?_
      refine th_iast S hK hH hS ⟨12, by decide, trf4⟩ trf4 kd_12 (th_in (hi := 1600) ir7 (by decide)) (th_iv j1) dX8_addToken_21 (fun H locs hH hS hq1 => ?_)
      have f10 := fv1.kept (hq1 _ (th_ne t0 trf4 (by decide)))
      have f11 := fv3.kept (hq1 _ (th_ne t0 trf4 (by decide)))
      refine lv_aload_n hx hb dX8_addToken_22 rfl (lv_at hl 0 rfl) ?_
      refine th_get S hK hH inG8 t0 kd_1 rfl 2 (by decide) gm_151 rfl rfl dX8_addToken_23 (fun v12 hv12 fv12 => ?_)
      obtain ⟨rf13, rfl, trf13⟩ := th_V.ref hv12
      refine lv_aload_n hx hb dX8_addToken_26 rfl (lv_at hl 0 rfl) ?_
      refine th_getK S hK f10 inG8 rfl (by decide) gm_158 rfl dX8_addToken_27 ?_
      refine lv_iload_n hx hb dX8_addToken_30 rfl (lv_at hl 2 rfl) ?_
      refine th_iast S hK hH hS ⟨13, by decide, trf13⟩ trf13 kd_13 (th_in (hi := 1600) ir7 (by decide)) (th_iv j2) dX8_addToken_31 (fun H locs hH hS hq1 => ?_)
      have f15 := f10.kept (hq1 _ (th_ne t0 trf13 (by decide)))
      have f16 := f11.kept (hq1 _ (th_ne t0 trf13 (by decide)))
      refine lv_aload_n hx hb dX8_addToken_32 rfl (lv_at hl 0 rfl) ?_
      refine th_get S hK hH inG8 t0 kd_1 rfl 3 (by decide) gm_153 rfl rfl dX8_addToken_33 (fun v17 hv17 fv17 => ?_)
      obtain ⟨rf18, rfl, trf18⟩ := th_V.ref hv17
      refine lv_aload_n hx hb dX8_addToken_36 rfl (lv_at hl 0 rfl) ?_
      refine th_getK S hK f15 inG8 rfl (by decide) gm_158 rfl dX8_addToken_37 ?_
      refine lv_lload_n hx hb dX8_addToken_40 rfl (lv_at hl 3 rfl) ?_
      refine th_last S hK hH hS ⟨14, by decide, trf18⟩ trf18 kd_14 (th_in (hi := 1600) ir7 (by decide)) (th_lg _) dX8_addToken_41 (fun H locs hH hS hq1 => ?_)
      have f20 := f15.kept (hq1 _ (th_ne t0 trf18 (by decide)))
      have f21 := f16.kept (hq1 _ (th_ne t0 trf18 (by decide)))
      refine lv_aload_n hx hb dX8_addToken_42 rfl (lv_at hl 0 rfl) ?_
      refine lv_dup hx hb dX8_addToken_43 rfl ?_
      refine th_getK S hK f20 inG8 rfl (by decide) gm_158 rfl dX8_addToken_44 ?_
      refine lv_iconst (v := 1) hx hb dX8_addToken_47 (by decide) ?_
      refine lv_iadd hx hb dX8_addToken_48 ?_
      refine lv_topi (fun x23 ex23 => ?_)
      have ix23 : IV x23 1 1601 := by rw [ex23]; exact iv_add ir7 (iv_c (by decide) : IV 1 1 1) (by decide)
      refine th_put S hK hH hS ⟨1, by decide, t0⟩ inG8 tyX8 tyX8_ok nmX8 t0 kd_1 rfl 5 (by decide) gm_158 rfl rfl rfl rfl (th_iv (iv_w ix23 (by decide))) (fun _ _ => trivial) (ty := .int) (by decide +kernel) rfl rfl dX8_addToken_49 (fun H locs hH hS hq1 hp1 => ?_)
      have f24 := hp1.2 1 _ (by decide) (by decide) f21
      have f25 := hp1.1
      exact J52 H locs ls x23 ix23 f25 hH hS (lv_sub hl [] rfl)
  exact J0 s.heap [] ls hH va_S.rf hl

set_option maxRecDepth 100000 in
theorem m_X8_scanNumber (l : Launch) (D : va_G) (cT : Nat → ClassId) (T : Nat → Option Nat) (q : Nat → Int) (hq : qok q) (a0 : Nat) (t0 : T a0 = some 1) (y1 : Int32) (j1 : IV y1 0 1599) : th_Met l D cT T (kd q) yX8_scanNumber cX8_scanNumber 4 (some .int) (rmk 1 24) [.ref a0, .int y1] (th_R T (some (.inl (1, 4)))) [1, 12, 13, 14] := by
  refine th_start (by decide) (Nat.le_of_ble_eq_true rfl) ?_
  intro p e s m below meth c ls S hK hH hr hlocks hnm hl
  have hx := S.1
  have hb := S.2.1
  have hl : lv_has ls 4 [(0, .ref a0), (1, .int y1)] := hl
  have J42 : ∀ (H : Heap) (locs : List Loc) (ls : Array Slot) (v42_2 : Int32) (v42_3 : Int32), IV v42_2 (-2147483648) 2147483647 → IV v42_3 0 4 → th_H D cT T (kd q) H → va_S (th_A T [1, 12, 13, 14]) s.heap H locs → lv_has ls 4 [(0, .ref a0), (1, .int y1), (2, .int v42_2), (3, .int v42_3)] → W p l e (rmk 1 24) s m [.ref a0, .int y1].toArray below meth c H locs 0 0 (MQ below (th_Q D cT T (kd q) (th_R T (some (.inl (1, 4)))) [1, 12, 13, 14]) [.ref a0, .int y1].toArray s 0 0 (th_A T [1, 12, 13, 14])) (F0 m 42 ls []) := by
    intro H locs ls v42_2 v42_3 iv42_2 iv42_3 hH hS hl
    refine lv_aload_n hx hb dX8_scanNumber_42 rfl (lv_at hl 0 rfl) ?_
    refine lv_iconst (v := 3) hx hb dX8_scanNumber_43 (by decide) ?_
    refine lv_iload_n hx hb dX8_scanNumber_44 rfl (lv_at hl 1 rfl) ?_
    refine lv_iload_n hx hb dX8_scanNumber_45 rfl (lv_at hl 2 rfl) ?_
    refine lv_i2l (v := _) hx hb dX8_scanNumber_46 rfl ?_
    refine lv_topl (fun lg1 elg1 => ?_)
    refine th_callVv (n := 3) (As := [.int 3, .int y1, .long lg1]) S hK hH hS (th_A.sub (by decide)) (m_X8_addToken l D cT T q hq a0 t0 (3) (iv_top _) (y1) (iv_top _) (lg1)) gm_623 gm_620 gm_622 gm_3 gm_114 (by decide +kernel) ⟨rfl, rfl, Nat.le_of_ble_eq_true rfl, Nat.le_of_ble_eq_true rfl⟩ t0 kd_1 rfl rfl hl.1 rfl (Nat.le_of_ble_eq_true rfl) dX8_scanNumber_47 ⟨Nat.zero_le _, Nat.zero_le _⟩ (fun H locs hH hS hF1 => ?_)
    refine lv_iconst (v := 1) hx hb dX8_scanNumber_50 (by decide) ?_
    refine lv_iload_n hx hb dX8_scanNumber_51 rfl (lv_at hl 3 rfl) ?_
    refine va_mmax hx hb (S.2.2.1.trans hl.1.symm) S.2.2.2.1 (S.2.2.2.2 _ gm_624) (S.2.2.2.2 _ gm_625) (S.2.2.2.2 _ gm_129) (S.2.2.2.2 _ gm_626) (Nat.le_of_ble_eq_true rfl) (Nat.le_of_ble_eq_true rfl) (Nat.zero_le _) (Nat.zero_le _) dX8_scanNumber_52 ?_
    refine lv_topi (fun x2 ex2 => ?_)
    have ix2 : IV x2 1 4 := by rw [ex2]; exact iv_max (iv_c (by decide) : IV 1 1 1) iv42_3 (by decide)
    exact th_iret S hK hH hS hr hlocks (th_R.i ix2) dX8_scanNumber_55
  have J4 : ∀ (n : Nat) (H : Heap) (locs : List Loc) (ls : Array Slot) (v4_2 : Int32) (v4_3 : Int32), IV v4_2 (-2147483648) 2147483647 → IV v4_3 0 4 → th_H D cT T (kd q) H → va_S (th_A T [1, 12, 13, 14]) s.heap H locs → lv_has ls 4 [(0, .ref a0), (1, .int y1), (2, .int v4_2), (3, .int v4_3)] → (4 + 1 - v4_3.toInt).toNat < n → W p l e (rmk 1 24) s m [.ref a0, .int y1].toArray below meth c H locs 0 0 (MQ below (th_Q D cT T (kd q) (th_R T (some (.inl (1, 4)))) [1, 12, 13, 14]) [.ref a0, .int y1].toArray s 0 0 (th_A T [1, 12, 13, 14])) (F0 m 4 ls []) := by
    intro n
    induction n with
    | zero => intro H locs ls v4_2 v4_3 iv4_2 iv4_3 hH hS hl hn; exact absurd hn (Nat.not_lt_zero _)
    | succ n ih4 =>
      intro H locs ls v4_2 v4_3 iv4_2 iv4_3 hH hS hl hn4
      refine lv_iload_n hx hb dX8_scanNumber_4 rfl (lv_at hl 3 rfl) ?_
      refine lv_iconst (v := 4) hx hb dX8_scanNumber_5 (by decide) ?_
      refine lv_icmp_ge (tgt := 42) hx hb dX8_scanNumber_6 (by decide) (fun c3 => ?_) (fun c3 => ?_)
      · skip
        have ir4 : IV v4_3 4 4 := iv_vR (iv_c (by decide) : IV 4 4 4) iv4_3 (iv_le c3) (by decide)
        exact J42 H locs ls v4_2 v4_3 iv4_2 (iv_w ir4 (by decide)) hH hS (lv_sub hl [0, 1, 2, 3] rfl)
      · skip
        have ir5 : IV v4_3 0 3 := iv_uL iv4_3 (iv_c (by decide) : IV 4 4 4) (iv_nle c3) (by decide)
        refine lv_aload_n hx hb dX8_scanNumber_9 rfl (lv_at hl 0 rfl) ?_
        refine lv_iload_n hx hb dX8_scanNumber_10 rfl (lv_at hl 1 rfl) ?_
        refine lv_iload_n hx hb dX8_scanNumber_11 rfl (lv_at hl 3 rfl) ?_
        refine lv_iadd hx hb dX8_scanNumber_12 ?_
        refine lv_topi (fun x6 ex6 => ?_)
        have ix6 : IV x6 0 1602 := by rw [ex6]; exact iv_add j1 ir5 (by decide)
        refine th_callVg (n := 1) (As := [.int x6]) S hK hH hS (th_A.sub (by decide)) (m_X8_isDigit l D cT T q hq a0 t0 (x6) (iv_top _)) gm_563 gm_560 gm_562 gm_1 gm_114 (by decide +kernel) ⟨rfl, rfl, Nat.le_of_ble_eq_true rfl, Nat.le_of_ble_eq_true rfl⟩ t0 kd_1 rfl rfl hl.1 rfl (Nat.le_of_ble_eq_true rfl) dX8_scanNumber_13 ⟨Nat.zero_le _, Nat.zero_le _⟩ (fun x7 H locs ix7 ox7 hH hS hF1 => ?_)
        refine lv_if_eq (tgt := 42) hx hb dX8_scanNumber_16 (by decide) (fun c8 => ?_) (fun c8 => ?_)
        · skip
          have ir9 : IV x7 0 0 := iv_eL c8 (iv_c (by decide) : IV 0 0 0)
          exact J42 H locs ls v4_2 v4_3 iv4_2 (iv_w ir5 (by decide)) hH hS (lv_sub hl [0, 1, 2, 3] rfl)
        · skip
          have ir10 : IV x7 1 1 := iv_cutL ix7 (iv_c (by decide) : IV 0 0 0) c8 (by decide)
          have ir11 : IV x6 0 1599 := ox7 c8
          refine lv_iload_n hx hb dX8_scanNumber_19 rfl (lv_at hl 2 rfl) ?_
          refine lv_bipush (v := 10) hx hb dX8_scanNumber_20 (by decide) ?_
          refine lv_imul hx hb dX8_scanNumber_22 ?_
          refine lv_topi (fun x12 ex12 => ?_)
          have ix12 := iv_top x12
          refine lv_aload_n hx hb dX8_scanNumber_23 rfl (lv_at hl 0 rfl) ?_
          refine th_get S hK hH inG8 t0 kd_1 rfl 0 (by decide) gm_148 rfl rfl dX8_scanNumber_24 (fun v13 hv13 fv13 => ?_)
          obtain ⟨rf14, rfl, trf14⟩ := th_V.ref hv13
          refine lv_iload_n hx hb dX8_scanNumber_27 rfl (lv_at hl 1 rfl) ?_
          refine lv_iload_n hx hb dX8_scanNumber_28 rfl (lv_at hl 3 rfl) ?_
          refine lv_iadd hx hb dX8_scanNumber_29 ?_
          refine lv_topi (fun x15 ex15 => ?_)
          have zx15 : x6 = x15 := ex6.trans ex15.symm
          subst zx15
          refine th_bald S hK hH trf14 kd_11 (th_in (hi := 1599) ir11 (by decide)) dX8_scanNumber_30 (fun v16 hv16 => ?_)
          obtain ⟨x17, rfl, ix17⟩ := th_V.int hv16
          refine lv_iadd hx hb dX8_scanNumber_31 ?_
          refine lv_topi (fun x18 ex18 => ?_)
          have ix18 := iv_top x18
          refine lv_bipush (v := 48) hx hb dX8_scanNumber_32 (by decide) ?_
          refine lv_isub hx hb dX8_scanNumber_34 ?_
          refine lv_topi (fun x19 ex19 => ?_)
          have ix19 := iv_top x19
          refine lv_istore_n (lv' := [(2, .int x19), (0, .ref a0), (1, .int y1), (3, .int v4_3)]) hx hb dX8_scanNumber_35 rfl hl (by decide) rfl (fun ls hl => ?_)
          refine th_iinc S dX8_scanNumber_36 hl (k := 3) rfl (by decide) ir5 (by decide) (fun x20 ls ex20 ix20 hl => ?_)
          have hl : lv_has ls 4 [(3, .int x20), (2, .int x19), (0, .ref a0), (1, .int y1)] := hl
          have ix20 : IV x20 1 4 := ix20
          refine lv_goto (tgt := 4) hx hb dX8_scanNumber_39 (by decide) ?_
          exact ih4 H locs ls x19 x20 ix19 (iv_w ix20 (by decide)) hH hS (lv_sub hl [2, 3, 1, 0] rfl) (th_up iv4_3 ex20 (by decide) hn4)
  have J0 : ∀ (H : Heap) (locs : List Loc) (ls : Array Slot), th_H D cT T (kd q) H → va_S (th_A T [1, 12, 13, 14]) s.heap H locs → lv_has ls 4 [(0, .ref a0), (1, .int y1)] → W p l e (rmk 1 24) s m [.ref a0, .int y1].toArray below meth c H locs 0 0 (MQ below (th_Q D cT T (kd q) (th_R T (some (.inl (1, 4)))) [1, 12, 13, 14]) [.ref a0, .int y1].toArray s 0 0 (th_A T [1, 12, 13, 14])) (F0 m 0 ls []) := by
    intro H locs ls hH hS hl
    refine lv_iconst (v := 0) hx hb dX8_scanNumber_0 (by decide) ?_
    refine lv_istore_n (lv' := [(2, .int 0), (0, .ref a0), (1, .int y1)]) hx hb dX8_scanNumber_1 rfl hl (by decide) rfl (fun ls hl => ?_)
    refine lv_iconst (v := 0) hx hb dX8_scanNumber_2 (by decide) ?_
    refine lv_istore_n (lv' := [(3, .int 0), (2, .int 0), (0, .ref a0), (1, .int y1)]) hx hb dX8_scanNumber_3 rfl hl (by decide) rfl (fun ls hl => ?_)
    exact J4 ((4 + 1 - Int32.toInt 0).toNat + 1) H locs ls 0 0 (iv_top _) (iv_w (iv_c (by decide) : IV 0 0 0) (by decide)) hH hS (lv_sub hl [2, 3, 1, 0] rfl) (Nat.lt_succ_self _)
  exact J0 s.heap [] ls hH va_S.rf hl

set_option maxRecDepth 100000 in
theorem m_X9_tell (l : Launch) (D : va_G) (cT : Nat → ClassId) (T : Nat → Option Nat) (q : Nat → Int) (hq : qok q) (a0 : Nat) (t0 : T a0 = some 8) (y1 : Int32) (j1 : IV y1 (-2147483648) 2147483647) (y2 : Int32) (j2 : IV y2 (-2147483648) 2147483647) (y3 : Int32) (j3 : IV y3 (-2147483648) 2147483647) (y4 : Int32) (j4 : IV y4 (-2147483648) 2147483647) (y5 : Int32) (j5 : IV y5 0 1) : th_Met l D cT T (kd q) yX9_tell cX9_tell 6 (some .int) (rmk 0 0) [.ref a0, .int y1, .int y2, .int y3, .int y4, .int y5] (th_R T (some (.inl (-1, 29)))) [8, 40, 41, 42, 43, 44] := by
  refine th_start (by decide) (Nat.le_of_ble_eq_true rfl) ?_
  intro p e s m below meth c ls S hK hH hr hlocks hnm hl
  have hx := S.1
  have hb := S.2.1
  have hl : lv_has ls 6 [(0, .ref a0), (1, .int y1), (2, .int y2), (3, .int y3), (4, .int y4), (5, .int y5)] := hl
  have J0 : ∀ (H : Heap) (locs : List Loc) (ls : Array Slot), th_H D cT T (kd q) H → va_S (th_A T [8, 40, 41, 42, 43, 44]) s.heap H locs → lv_has ls 6 [(0, .ref a0), (1, .int y1), (2, .int y2), (3, .int y3), (4, .int y4), (5, .int y5)] → W p l e (rmk 0 0) s m [.ref a0, .int y1, .int y2, .int y3, .int y4, .int y5].toArray below meth c H locs 0 0 (MQ below (th_Q D cT T (kd q) (th_R T (some (.inl (-1, 29)))) [8, 40, 41, 42, 43, 44]) [.ref a0, .int y1, .int y2, .int y3, .int y4, .int y5].toArray s 0 0 (th_A T [8, 40, 41, 42, 43, 44])) (F0 m 0 ls []) := by
    intro H locs ls hH hS hl
    refine lv_aload_n hx hb dX9_tell_0 rfl (lv_at hl 0 rfl) ?_
    refine th_get S hK hH inG9 t0 kd_8 rfl 6 (by decide) gm_481 rfl rfl dX9_tell_1 (fun v1 hv1 fv1 => ?_)
    obtain ⟨x2, rfl, ix2⟩ := th_V.int hv1
    refine lv_bipush (v := 30) hx hb dX9_tell_4 (by decide) ?_
    refine lv_icmp_lt (tgt := 11) hx hb dX9_tell_6 (by decide) (fun c3 => ?_) (fun c3 => ?_)
    · skip
      have ir4 : IV x2 0 29 := iv_uL ix2 (iv_c (by decide) : IV 30 30 30) (iv_lt c3) (by decide)
      refine lv_aload_n hx hb dX9_tell_11 rfl (lv_at hl 0 rfl) ?_
      refine th_get S hK hH inG9 t0 kd_8 rfl 0 (by decide) gm_475 rfl rfl dX9_tell_12 (fun v5 hv5 fv5 => ?_)
      obtain ⟨rf6, rfl, trf6⟩ := th_V.ref hv5
      refine lv_aload_n hx hb dX9_tell_15 rfl (lv_at hl 0 rfl) ?_
      refine th_getK S hK fv1 inG9 rfl (by decide) gm_481 rfl dX9_tell_16 ?_
      refine lv_iconst (v := 3) hx hb dX9_tell_19 (by decide) ?_
      refine lv_imul hx hb dX9_tell_20 ?_
      refine lv_topi (fun x8 ex8 => ?_)
      have ix8 : IV x8 0 87 := by rw [ex8]; exact iv_mul ir4 (iv_c (by decide) : IV 3 3 3) (by decide) (by decide)
      refine lv_iload_n hx hb dX9_tell_21 rfl (lv_at hl 1 rfl) ?_
      refine th_iast S hK hH hS ⟨40, by decide, trf6⟩ trf6 kd_40 (th_in (hi := 87) ix8 (by decide)) (th_iv j1) dX9_tell_22 (fun H locs hH hS hq1 => ?_)
      have f9 := fv1.kept (hq1 _ (th_ne t0 trf6 (by decide)))
      have f10 := fv5.kept (hq1 _ (th_ne t0 trf6 (by decide)))
      refine lv_aload_n hx hb dX9_tell_23 rfl (lv_at hl 0 rfl) ?_
      refine th_getK S hK f10 inG9 rfl (by decide) gm_475 rfl dX9_tell_24 ?_
      refine lv_aload_n hx hb dX9_tell_27 rfl (lv_at hl 0 rfl) ?_
      refine th_getK S hK f9 inG9 rfl (by decide) gm_481 rfl dX9_tell_28 ?_
      refine lv_iconst (v := 3) hx hb dX9_tell_31 (by decide) ?_
      refine lv_imul hx hb dX9_tell_32 ?_
      refine lv_topi (fun x13 ex13 => ?_)
      have zx13 : x8 = x13 := ex8.trans ex13.symm
      subst zx13
      refine lv_iconst (v := 1) hx hb dX9_tell_33 (by decide) ?_
      refine lv_iadd hx hb dX9_tell_34 ?_
      refine lv_topi (fun x14 ex14 => ?_)
      have ix14 : IV x14 1 88 := by rw [ex14]; exact iv_add ix8 (iv_c (by decide) : IV 1 1 1) (by decide)
      refine lv_iload_n hx hb dX9_tell_35 rfl (lv_at hl 2 rfl) ?_
      refine th_iast S hK hH hS ⟨40, by decide, trf6⟩ trf6 kd_40 (th_in (hi := 88) (iv_w ix14 (by decide)) (by decide)) (th_iv j2) dX9_tell_36 (fun H locs hH hS hq1 => ?_)
      have f15 := f9.kept (hq1 _ (th_ne t0 trf6 (by decide)))
      have f16 := f10.kept (hq1 _ (th_ne t0 trf6 (by decide)))
      refine lv_aload_n hx hb dX9_tell_37 rfl (lv_at hl 0 rfl) ?_
      refine th_getK S hK f16 inG9 rfl (by decide) gm_475 rfl dX9_tell_38 ?_
      refine lv_aload_n hx hb dX9_tell_41 rfl (lv_at hl 0 rfl) ?_
      refine th_getK S hK f15 inG9 rfl (by decide) gm_481 rfl dX9_tell_42 ?_
      refine lv_iconst (v := 3) hx hb dX9_tell_45 (by decide) ?_
      refine lv_imul hx hb dX9_tell_46 ?_
      refine lv_topi (fun x19 ex19 => ?_)
      have zx19 : x8 = x19 := ex8.trans ex19.symm
      subst zx19
      refine lv_iconst (v := 2) hx hb dX9_tell_47 (by decide) ?_
      refine lv_iadd hx hb dX9_tell_48 ?_
      refine lv_topi (fun x20 ex20 => ?_)
      have ix20 : IV x20 2 89 := by rw [ex20]; exact iv_add ix8 (iv_c (by decide) : IV 2 2 2) (by decide)
      refine lv_iload_n hx hb dX9_tell_49 rfl (lv_at hl 3 rfl) ?_
      refine th_iast S hK hH hS ⟨40, by decide, trf6⟩ trf6 kd_40 (th_in (hi := 89) (iv_w ix20 (by decide)) (by decide)) (th_iv j3) dX9_tell_50 (fun H locs hH hS hq1 => ?_)
      have f21 := f15.kept (hq1 _ (th_ne t0 trf6 (by decide)))
      have f22 := f16.kept (hq1 _ (th_ne t0 trf6 (by decide)))
      refine lv_aload_n hx hb dX9_tell_51 rfl (lv_at hl 0 rfl) ?_
      refine th_get S hK hH inG9 t0 kd_8 rfl 1 (by decide) gm_476 rfl rfl dX9_tell_52 (fun v23 hv23 fv23 => ?_)
      obtain ⟨rf24, rfl, trf24⟩ := th_V.ref hv23
      refine lv_aload_n hx hb dX9_tell_55 rfl (lv_at hl 0 rfl) ?_
      refine th_getK S hK f21 inG9 rfl (by decide) gm_481 rfl dX9_tell_56 ?_
      refine lv_iload hx hb dX9_tell_59 (lv_at hl 4 rfl) ?_
      refine th_iast S hK hH hS ⟨41, by decide, trf24⟩ trf24 kd_41 (th_in (hi := 29) ir4 (by decide)) (th_iv j4) dX9_tell_61 (fun H locs hH hS hq1 => ?_)
      have f26 := f21.kept (hq1 _ (th_ne t0 trf24 (by decide)))
      have f27 := f22.kept (hq1 _ (th_ne t0 trf24 (by decide)))
      refine lv_aload_n hx hb dX9_tell_62 rfl (lv_at hl 0 rfl) ?_
      refine th_get S hK hH inG9 t0 kd_8 rfl 2 (by decide) gm_477 rfl rfl dX9_tell_63 (fun v28 hv28 fv28 => ?_)
      obtain ⟨rf29, rfl, trf29⟩ := th_V.ref hv28
      refine lv_aload_n hx hb dX9_tell_66 rfl (lv_at hl 0 rfl) ?_
      refine th_getK S hK f26 inG9 rfl (by decide) gm_481 rfl dX9_tell_67 ?_
      refine lv_iload hx hb dX9_tell_70 (lv_at hl 5 rfl) ?_
      refine th_zast S hK hH hS ⟨42, by decide, trf29⟩ trf29 kd_42 (th_in (hi := 29) ir4 (by decide)) (fun z => th_iv (iv_nbool z)) dX9_tell_72 (fun H locs hH hS hq1 => ?_)
      have f31 := f26.kept (hq1 _ (th_ne t0 trf29 (by decide)))
      have f32 := f27.kept (hq1 _ (th_ne t0 trf29 (by decide)))
      refine lv_aload_n hx hb dX9_tell_73 rfl (lv_at hl 0 rfl) ?_
      refine th_get S hK hH inG9 t0 kd_8 rfl 3 (by decide) gm_478 rfl rfl dX9_tell_74 (fun v33 hv33 fv33 => ?_)
      obtain ⟨rf34, rfl, trf34⟩ := th_V.ref hv33
      refine lv_aload_n hx hb dX9_tell_77 rfl (lv_at hl 0 rfl) ?_
      refine th_getK S hK f31 inG9 rfl (by decide) gm_481 rfl dX9_tell_78 ?_
      refine lv_aload_n hx hb dX9_tell_81 rfl (lv_at hl 0 rfl) ?_
      refine th_get S hK hH inG9 t0 kd_8 rfl 7 (by decide) gm_483 rfl rfl dX9_tell_82 (fun v36 hv36 fv36 => ?_)
      obtain ⟨x37, rfl, ix37⟩ := th_V.int hv36
      have ix37 : IV x37 0 100000 := iv_w ix37 (qok_0 hq)
      refine th_iast S hK hH hS ⟨43, by decide, trf34⟩ trf34 kd_43 (th_in (hi := 29) ir4 (by decide)) (th_iv (iv_top _)) dX9_tell_85 (fun H locs hH hS hq1 => ?_)
      have f38 := f31.kept (hq1 _ (th_ne t0 trf34 (by decide)))
      have f39 := f32.kept (hq1 _ (th_ne t0 trf34 (by decide)))
      refine lv_aload_n hx hb dX9_tell_86 rfl (lv_at hl 0 rfl) ?_
      refine th_get S hK hH inG9 t0 kd_8 rfl 4 (by decide) gm_479 rfl rfl dX9_tell_87 (fun v40 hv40 fv40 => ?_)
      obtain ⟨rf41, rfl, trf41⟩ := th_V.ref hv40
      refine lv_aload_n hx hb dX9_tell_90 rfl (lv_at hl 0 rfl) ?_
      refine th_getK S hK f38 inG9 rfl (by decide) gm_481 rfl dX9_tell_91 ?_
      refine lv_iconst (v := (-1)) hx hb dX9_tell_94 (by decide) ?_
      refine th_iast S hK hH hS ⟨44, by decide, trf41⟩ trf41 kd_44 (th_in (hi := 29) ir4 (by decide)) (th_iv (iv_top _)) dX9_tell_95 (fun H locs hH hS hq1 => ?_)
      have f43 := f38.kept (hq1 _ (th_ne t0 trf41 (by decide)))
      have f44 := f39.kept (hq1 _ (th_ne t0 trf41 (by decide)))
      refine lv_aload_n hx hb dX9_tell_96 rfl (lv_at hl 0 rfl) ?_
      refine lv_dup hx hb dX9_tell_97 rfl ?_
      refine th_getK S hK f43 inG9 rfl (by decide) gm_481 rfl dX9_tell_98 ?_
      refine lv_iconst (v := 1) hx hb dX9_tell_101 (by decide) ?_
      refine lv_iadd hx hb dX9_tell_102 ?_
      refine lv_topi (fun x46 ex46 => ?_)
      have ix46 : IV x46 1 30 := by rw [ex46]; exact iv_add ir4 (iv_c (by decide) : IV 1 1 1) (by decide)
      refine th_put S hK hH hS ⟨8, by decide, t0⟩ inG9 tyX9 tyX9_ok nmX9 t0 kd_8 rfl 6 (by decide) gm_481 rfl rfl rfl rfl (th_iv (iv_w ix46 (by decide))) (fun _ _ => trivial) (ty := .int) (by decide +kernel) rfl rfl dX9_tell_103 (fun H locs hH hS hq1 hp1 => ?_)
      have f47 := hp1.2 0 _ (by decide) (by decide) f44
      have f48 := hp1.1
      refine lv_aload_n hx hb dX9_tell_106 rfl (lv_at hl 0 rfl) ?_
      refine th_getK S hK f48 inG9 rfl (by decide) gm_481 rfl dX9_tell_107 ?_
      refine lv_iconst (v := 1) hx hb dX9_tell_110 (by decide) ?_
      refine lv_isub hx hb dX9_tell_111 ?_
      refine lv_topi (fun x50 ex50 => ?_)
      have ix50 : IV x50 0 29 := by rw [ex50]; exact iv_sub ix46 (iv_c (by decide) : IV 1 1 1) (by decide)
      exact th_iret S hK hH hS hr hlocks (th_R.i (iv_w ix50 (by decide))) dX9_tell_112
    · skip
      have ir51 : IV x2 30 30 := iv_vR (iv_c (by decide) : IV 30 30 30) ix2 (iv_nlt c3) (by decide)
      refine lv_iconst (v := (-1)) hx hb dX9_tell_9 (by decide) ?_
      exact th_iret S hK hH hS hr hlocks (th_R.i (iv_w (iv_c (by decide) : IV (-1) (-1) (-1)) (by decide))) dX9_tell_10
  exact J0 s.heap [] ls hH va_S.rf hl

set_option maxRecDepth 100000 in
theorem m_X9_takeBack (l : Launch) (D : va_G) (cT : Nat → ClassId) (T : Nat → Option Nat) (q : Nat → Int) (hq : qok q) (a0 : Nat) (t0 : T a0 = some 8) (y1 : Int32) (j1 : IV y1 (-2147483648) 2147483647) : th_Met l D cT T (kd q) yX9_takeBack cX9_takeBack 2 (some .boolean) (rmk 0 0) [.ref a0, .int y1] (th_R T (some (.inl (0, 1)))) [44] := by
  refine th_start (by decide) (Nat.le_of_ble_eq_true rfl) ?_
  intro p e s m below meth c ls S hK hH hr hlocks hnm hl
  have hx := S.1
  have hb := S.2.1
  have hl : lv_has ls 2 [(0, .ref a0), (1, .int y1)] := hl
  have J22 : ∀ (H : Heap) (locs : List Loc) (ls : Array Slot), th_H D cT T (kd q) H → va_S (th_A T [44]) s.heap H locs → lv_has ls 2 [] → W p l e (rmk 0 0) s m [.ref a0, .int y1].toArray below meth c H locs 0 0 (MQ below (th_Q D cT T (kd q) (th_R T (some (.inl (0, 1)))) [44]) [.ref a0, .int y1].toArray s 0 0 (th_A T [44])) (F0 m 22 ls []) := by
    intro H locs ls hH hS hl
    refine lv_iconst (v := 0) hx hb dX9_takeBack_22 (by decide) ?_
    exact th_zret S hK hH hS hr hlocks (iv_w (iv_c (by decide) : IV 0 0 0) (by decide)) (th_R.i (iv_w (iv_c (by decide) : IV 0 0 0) (by decide))) dX9_takeBack_23
  have J0 : ∀ (H : Heap) (locs : List Loc) (ls : Array Slot), th_H D cT T (kd q) H → va_S (th_A T [44]) s.heap H locs → lv_has ls 2 [(0, .ref a0), (1, .int y1)] → W p l e (rmk 0 0) s m [.ref a0, .int y1].toArray below meth c H locs 0 0 (MQ below (th_Q D cT T (kd q) (th_R T (some (.inl (0, 1)))) [44]) [.ref a0, .int y1].toArray s 0 0 (th_A T [44])) (F0 m 0 ls []) := by
    intro H locs ls hH hS hl
    refine lv_iload_n hx hb dX9_takeBack_0 rfl (lv_at hl 1 rfl) ?_
    refine lv_if_lt (tgt := 22) hx hb dX9_takeBack_1 (by decide) (fun c1 => ?_) (fun c1 => ?_)
    · skip
      have ir2 : IV y1 (-2147483648) (-1) := iv_uL j1 (iv_c (by decide) : IV 0 0 0) (iv_lt c1) (by decide)
      exact J22 H locs ls  hH hS (lv_sub hl [] rfl)
    · skip
      have ir3 : IV y1 0 2147483647 := iv_vR (iv_c (by decide) : IV 0 0 0) j1 (iv_nlt c1) (by decide)
      refine lv_iload_n hx hb dX9_takeBack_4 rfl (lv_at hl 1 rfl) ?_
      refine lv_aload_n hx hb dX9_takeBack_5 rfl (lv_at hl 0 rfl) ?_
      refine th_get S hK hH inG9 t0 kd_8 rfl 6 (by decide) gm_481 rfl rfl dX9_takeBack_6 (fun v4 hv4 fv4 => ?_)
      obtain ⟨x5, rfl, ix5⟩ := th_V.int hv4
      refine lv_icmp_ge (tgt := 22) hx hb dX9_takeBack_9 (by decide) (fun c6 => ?_) (fun c6 => ?_)
      · skip
        exact J22 H locs ls  hH hS (lv_sub hl [] rfl)
      · skip
        have ir7 : IV y1 0 29 := iv_uL ir3 ix5 (iv_nle c6) (by decide)
        have ir8 : IV x5 1 30 := iv_uR ir3 ix5 (iv_nle c6) (by decide)
        refine lv_aload_n hx hb dX9_takeBack_12 rfl (lv_at hl 0 rfl) ?_
        refine th_get S hK hH inG9 t0 kd_8 rfl 4 (by decide) gm_479 rfl rfl dX9_takeBack_13 (fun v9 hv9 fv9 => ?_)
        obtain ⟨rf10, rfl, trf10⟩ := th_V.ref hv9
        refine lv_iload_n hx hb dX9_takeBack_16 rfl (lv_at hl 1 rfl) ?_
        refine th_iald S hK hH trf10 kd_44 (th_in (hi := 29) ir7 (by decide)) dX9_takeBack_17 (fun v11 hv11 => ?_)
        obtain ⟨x12, rfl, ix12⟩ := th_V.int hv11
        refine lv_iconst (v := (-1)) hx hb dX9_takeBack_18 (by decide) ?_
        refine lv_icmp_eq (tgt := 24) hx hb dX9_takeBack_19 (by decide) (fun c13 => ?_) (fun c13 => ?_)
        · skip
          have ir14 : IV x12 (-1) (-1) := iv_eL c13 (iv_c (by decide) : IV (-1) (-1) (-1))
          refine lv_aload_n hx hb dX9_takeBack_24 rfl (lv_at hl 0 rfl) ?_
          refine th_getK S hK fv9 inG9 rfl (by decide) gm_479 rfl dX9_takeBack_25 ?_
          refine lv_iload_n hx hb dX9_takeBack_28 rfl (lv_at hl 1 rfl) ?_
          refine lv_aload_n hx hb dX9_takeBack_29 rfl (lv_at hl 0 rfl) ?_
          refine th_get S hK hH inG9 t0 kd_8 rfl 7 (by decide) gm_483 rfl rfl dX9_takeBack_30 (fun v16 hv16 fv16 => ?_)
          obtain ⟨x17, rfl, ix17⟩ := th_V.int hv16
          have ix17 : IV x17 0 100000 := iv_w ix17 (qok_0 hq)
          refine th_iast S hK hH hS ⟨44, by decide, trf10⟩ trf10 kd_44 (th_in (hi := 29) ir7 (by decide)) (th_iv (iv_top _)) dX9_takeBack_33 (fun H locs hH hS hq1 => ?_)
          have f18 := fv9.kept (hq1 _ (th_ne t0 trf10 (by decide)))
          refine lv_iconst (v := 1) hx hb dX9_takeBack_34 (by decide) ?_
          exact th_zret S hK hH hS hr hlocks (iv_w (iv_c (by decide) : IV 1 1 1) (by decide)) (th_R.i (iv_w (iv_c (by decide) : IV 1 1 1) (by decide))) dX9_takeBack_35
        · skip
          exact J22 H locs ls  hH hS (lv_sub hl [] rfl)
  exact J0 s.heap [] ls hH va_S.rf hl

set_option maxRecDepth 100000 in
theorem m_X9_counts (l : Launch) (D : va_G) (cT : Nat → ClassId) (T : Nat → Option Nat) (q : Nat → Int) (hq : qok q) (a0 : Nat) (t0 : T a0 = some 8) (y1 : Int32) (j1 : IV y1 0 29) (y2 : Int32) (j2 : IV y2 (-2147483648) 2147483647) : th_Met l D cT T (kd q) yX9_counts cX9_counts 4 (some .boolean) (rmk 0 0) [.ref a0, .int y1, .int y2] (th_R T (some (.inl (0, 1)))) [] := by
  refine th_start (by decide) (Nat.le_of_ble_eq_true rfl) ?_
  intro p e s m below meth c ls S hK hH hr hlocks hnm hl
  have hx := S.1
  have hb := S.2.1
  have hl : lv_has ls 4 [(0, .ref a0), (1, .int y1), (2, .int y2)] := hl
  have J45_s0_0 : ∀ (H : Heap) (locs : List Loc) (ls : Array Slot), th_H D cT T (kd q) H → va_S (th_A T []) s.heap H locs → lv_has ls 4 [] → W p l e (rmk 0 0) s m [.ref a0, .int y1, .int y2].toArray below meth c H locs 0 0 (MQ below (th_Q D cT T (kd q) (th_R T (some (.inl (0, 1)))) []) [.ref a0, .int y1, .int y2].toArray s 0 0 (th_A T [])) (F0 m 45 ls [.int 0]) := by
    intro H locs ls hH hS hl
    exact th_zret S hK hH hS hr hlocks (iv_w (iv_c (by decide) : IV 0 0 0) (by decide)) (th_R.i (iv_w (iv_c (by decide) : IV 0 0 0) (by decide))) dX9_counts_45
  have J45_s0_1 : ∀ (H : Heap) (locs : List Loc) (ls : Array Slot), th_H D cT T (kd q) H → va_S (th_A T []) s.heap H locs → lv_has ls 4 [] → W p l e (rmk 0 0) s m [.ref a0, .int y1, .int y2].toArray below meth c H locs 0 0 (MQ below (th_Q D cT T (kd q) (th_R T (some (.inl (0, 1)))) []) [.ref a0, .int y1, .int y2].toArray s 0 0 (th_A T [])) (F0 m 45 ls [.int 1]) := by
    intro H locs ls hH hS hl
    exact th_zret S hK hH hS hr hlocks (iv_w (iv_c (by decide) : IV 1 1 1) (by decide)) (th_R.i (iv_w (iv_c (by decide) : IV 1 1 1) (by decide))) dX9_counts_45
  have J44 : ∀ (H : Heap) (locs : List Loc) (ls : Array Slot), th_H D cT T (kd q) H → va_S (th_A T []) s.heap H locs → lv_has ls 4 [] → W p l e (rmk 0 0) s m [.ref a0, .int y1, .int y2].toArray below meth c H locs 0 0 (MQ below (th_Q D cT T (kd q) (th_R T (some (.inl (0, 1)))) []) [.ref a0, .int y1, .int y2].toArray s 0 0 (th_A T [])) (F0 m 44 ls []) := by
    intro H locs ls hH hS hl
    refine lv_iconst (v := 0) hx hb dX9_counts_44 (by decide) ?_
    exact J45_s0_0 H locs ls  hH hS (lv_sub hl [] rfl)
  have J25_s0_0 : ∀ (H : Heap) (locs : List Loc) (ls : Array Slot), th_H D cT T (kd q) H → va_S (th_A T []) s.heap H locs → lv_has ls 4 [(0, .ref a0), (1, .int y1), (2, .int y2)] → W p l e (rmk 0 0) s m [.ref a0, .int y1, .int y2].toArray below meth c H locs 0 0 (MQ below (th_Q D cT T (kd q) (th_R T (some (.inl (0, 1)))) []) [.ref a0, .int y1, .int y2].toArray s 0 0 (th_A T [])) (F0 m 25 ls [.int 0]) := by
    intro H locs ls hH hS hl
    refine lv_istore_n (lv' := [(3, .int 0), (0, .ref a0), (1, .int y1), (2, .int y2)]) hx hb dX9_counts_25 rfl hl (by decide) rfl (fun ls hl => ?_)
    refine lv_aload_n hx hb dX9_counts_26 rfl (lv_at hl 1 rfl) ?_
    refine th_get S hK hH inG9 t0 kd_8 rfl 3 (by decide) gm_478 rfl rfl dX9_counts_27 (fun v1 hv1 fv1 => ?_)
    obtain ⟨rf2, rfl, trf2⟩ := th_V.ref hv1
    refine lv_iload_n hx hb dX9_counts_30 rfl (lv_at hl 2 rfl) ?_
    refine th_iald S hK hH trf2 kd_43 (th_in (hi := 29) j1 (by decide)) dX9_counts_31 (fun v3 hv3 => ?_)
    obtain ⟨x4, rfl, ix4⟩ := th_V.int hv3
    refine lv_iload_n hx hb dX9_counts_32 rfl (lv_at hl 3 rfl) ?_
    refine lv_icmp_gt (tgt := 44) hx hb dX9_counts_33 (by decide) (fun c5 => ?_) (fun c5 => ?_)
    · skip
      have ir6 : IV y2 (-2147483648) 2147483646 := iv_uL j2 ix4 (iv_lt c5) (by decide)
      have ir7 : IV x4 (-2147483647) 2147483647 := iv_uR j2 ix4 (iv_lt c5) (by decide)
      exact J44 H locs ls  hH hS (lv_sub hl [] rfl)
    · skip
      refine lv_iload_n hx hb dX9_counts_36 rfl (lv_at hl 0 rfl) ?_
      refine lv_if_ne (tgt := 44) hx hb dX9_counts_37 (by decide) (fun c8 => ?_) (fun c8 => ?_)
      · skip
        exact absurd (iv_eqc (iv_c (by decide) : IV 0 0 0) (iv_c (by decide) : IV 0 0 0)) c8
      · skip
        refine lv_iconst (v := 1) hx hb dX9_counts_40 (by decide) ?_
        refine lv_goto (tgt := 45) hx hb dX9_counts_41 (by decide) ?_
        exact J45_s0_1 H locs ls  hH hS (lv_sub hl [] rfl)
  have J25_s0_1 : ∀ (H : Heap) (locs : List Loc) (ls : Array Slot), th_H D cT T (kd q) H → va_S (th_A T []) s.heap H locs → lv_has ls 4 [(0, .ref a0), (1, .int y1), (2, .int y2)] → W p l e (rmk 0 0) s m [.ref a0, .int y1, .int y2].toArray below meth c H locs 0 0 (MQ below (th_Q D cT T (kd q) (th_R T (some (.inl (0, 1)))) []) [.ref a0, .int y1, .int y2].toArray s 0 0 (th_A T [])) (F0 m 25 ls [.int 1]) := by
    intro H locs ls hH hS hl
    refine lv_istore_n (lv' := [(3, .int 1), (0, .ref a0), (1, .int y1), (2, .int y2)]) hx hb dX9_counts_25 rfl hl (by decide) rfl (fun ls hl => ?_)
    refine lv_aload_n hx hb dX9_counts_26 rfl (lv_at hl 1 rfl) ?_
    refine th_get S hK hH inG9 t0 kd_8 rfl 3 (by decide) gm_478 rfl rfl dX9_counts_27 (fun v9 hv9 fv9 => ?_)
    obtain ⟨rf10, rfl, trf10⟩ := th_V.ref hv9
    refine lv_iload_n hx hb dX9_counts_30 rfl (lv_at hl 2 rfl) ?_
    refine th_iald S hK hH trf10 kd_43 (th_in (hi := 29) j1 (by decide)) dX9_counts_31 (fun v11 hv11 => ?_)
    obtain ⟨x12, rfl, ix12⟩ := th_V.int hv11
    refine lv_iload_n hx hb dX9_counts_32 rfl (lv_at hl 3 rfl) ?_
    refine lv_icmp_gt (tgt := 44) hx hb dX9_counts_33 (by decide) (fun c13 => ?_) (fun c13 => ?_)
    · skip
      have ir14 : IV y2 (-2147483648) 2147483646 := iv_uL j2 ix12 (iv_lt c13) (by decide)
      have ir15 : IV x12 (-2147483647) 2147483647 := iv_uR j2 ix12 (iv_lt c13) (by decide)
      exact J44 H locs ls  hH hS (lv_sub hl [] rfl)
    · skip
      refine lv_iload_n hx hb dX9_counts_36 rfl (lv_at hl 0 rfl) ?_
      refine lv_if_ne (tgt := 44) hx hb dX9_counts_37 (by decide) (fun c16 => ?_) (fun c16 => ?_)
      · skip
        exact J44 H locs ls  hH hS (lv_sub hl [] rfl)
      · skip
        exfalso
        have z1 := congrArg Int32.toInt c16
        have z2 := ((iv_c (by decide) : IV 1 1 1)).1
        have z3 := ((iv_c (by decide) : IV 1 1 1)).2
        have z4 := ((iv_c (by decide) : IV 0 0 0)).1
        have z5 := ((iv_c (by decide) : IV 0 0 0)).2
        omega
  have J24 : ∀ (H : Heap) (locs : List Loc) (ls : Array Slot), th_H D cT T (kd q) H → va_S (th_A T []) s.heap H locs → lv_has ls 4 [(0, .ref a0), (1, .int y1), (2, .int y2)] → W p l e (rmk 0 0) s m [.ref a0, .int y1, .int y2].toArray below meth c H locs 0 0 (MQ below (th_Q D cT T (kd q) (th_R T (some (.inl (0, 1)))) []) [.ref a0, .int y1, .int y2].toArray s 0 0 (th_A T [])) (F0 m 24 ls []) := by
    intro H locs ls hH hS hl
    refine lv_iconst (v := 0) hx hb dX9_counts_24 (by decide) ?_
    exact J25_s0_0 H locs ls  hH hS (lv_sub hl [0, 1, 2] rfl)
  have J0 : ∀ (H : Heap) (locs : List Loc) (ls : Array Slot), th_H D cT T (kd q) H → va_S (th_A T []) s.heap H locs → lv_has ls 4 [(0, .ref a0), (1, .int y1), (2, .int y2)] → W p l e (rmk 0 0) s m [.ref a0, .int y1, .int y2].toArray below meth c H locs 0 0 (MQ below (th_Q D cT T (kd q) (th_R T (some (.inl (0, 1)))) []) [.ref a0, .int y1, .int y2].toArray s 0 0 (th_A T [])) (F0 m 0 ls []) := by
    intro H locs ls hH hS hl
    refine lv_aload_n hx hb dX9_counts_0 rfl (lv_at hl 0 rfl) ?_
    refine th_get S hK hH inG9 t0 kd_8 rfl 4 (by decide) gm_479 rfl rfl dX9_counts_1 (fun v17 hv17 fv17 => ?_)
    obtain ⟨rf18, rfl, trf18⟩ := th_V.ref hv17
    refine lv_iload_n hx hb dX9_counts_4 rfl (lv_at hl 1 rfl) ?_
    refine th_iald S hK hH trf18 kd_44 (th_in (hi := 29) j1 (by decide)) dX9_counts_5 (fun v19 hv19 => ?_)
    obtain ⟨x20, rfl, ix20⟩ := th_V.int hv19
    refine lv_iconst (v := (-1)) hx hb dX9_counts_6 (by decide) ?_
    refine lv_icmp_eq (tgt := 24) hx hb dX9_counts_7 (by decide) (fun c21 => ?_) (fun c21 => ?_)
    · skip
      have ir22 : IV x20 (-1) (-1) := iv_eL c21 (iv_c (by decide) : IV (-1) (-1) (-1))
      exact J24 H locs ls  hH hS (lv_sub hl [0, 1, 2] rfl)
    · skip
      refine lv_aload_n hx hb dX9_counts_10 rfl (lv_at hl 0 rfl) ?_
      refine th_getK S hK fv17 inG9 rfl (by decide) gm_479 rfl dX9_counts_11 ?_
      refine lv_iload_n hx hb dX9_counts_14 rfl (lv_at hl 1 rfl) ?_
      refine th_iald S hK hH trf18 kd_44 (th_in (hi := 29) j1 (by decide)) dX9_counts_15 (fun v24 hv24 => ?_)
      obtain ⟨x25, rfl, ix25⟩ := th_V.int hv24
      refine lv_iload_n hx hb dX9_counts_16 rfl (lv_at hl 2 rfl) ?_
      refine lv_icmp_gt (tgt := 24) hx hb dX9_counts_17 (by decide) (fun c26 => ?_) (fun c26 => ?_)
      · skip
        have ir27 : IV y2 (-2147483648) 2147483646 := iv_uL j2 ix25 (iv_lt c26) (by decide)
        have ir28 : IV x25 (-2147483647) 2147483647 := iv_uR j2 ix25 (iv_lt c26) (by decide)
        exact J24 H locs ls  hH hS (lv_sub hl [0, 1, 2] rfl)
      · skip
        refine lv_iconst (v := 1) hx hb dX9_counts_20 (by decide) ?_
        refine lv_goto (tgt := 25) hx hb dX9_counts_21 (by decide) ?_
        exact J25_s0_1 H locs ls  hH hS (lv_sub hl [0, 1, 2] rfl)
  exact J0 s.heap [] ls hH va_S.rf hl

set_option maxRecDepth 100000 in
theorem m_X9_fits (l : Launch) (D : va_G) (cT : Nat → ClassId) (T : Nat → Option Nat) (q : Nat → Int) (hq : qok q) (a0 : Nat) (t0 : T a0 = some 8) (y1 : Int32) (j1 : IV y1 (-2147483648) 2147483647) (y2 : Int32) (j2 : IV y2 (-2147483648) 2147483647) (y3 : Int32) (j3 : IV y3 (-2147483648) 2147483647) (y4 : Int32) (j4 : IV y4 (-2147483648) 2147483647) : th_Met l D cT T (kd q) yX9_fits cX9_fits 7 (some .boolean) (rmk 1 23) [.ref a0, .int y1, .int y2, .int y3, .int y4] (th_R T (some (.inl (0, 1)))) [] := by
  refine th_start (by decide) (Nat.le_of_ble_eq_true rfl) ?_
  intro p e s m below meth c ls S hK hH hr hlocks hnm hl
  have hx := S.1
  have hb := S.2.1
  have hl : lv_has ls 7 [(0, .ref a0), (1, .int y1), (2, .int y2), (3, .int y3), (4, .int y4)] := hl
  have J3 : ∀ (n : Nat) (H : Heap) (locs : List Loc) (ls : Array Slot) (v3_5 : Int32), IV v3_5 0 30 → th_H D cT T (kd q) H → va_S (th_A T []) s.heap H locs → lv_has ls 7 [(0, .ref a0), (1, .int y1), (2, .int y2), (3, .int y3), (4, .int y4), (5, .int v3_5)] → (30 + 1 - v3_5.toInt).toNat < n → W p l e (rmk 1 23) s m [.ref a0, .int y1, .int y2, .int y3, .int y4].toArray below meth c H locs 0 0 (MQ below (th_Q D cT T (kd q) (th_R T (some (.inl (0, 1)))) []) [.ref a0, .int y1, .int y2, .int y3, .int y4].toArray s 0 0 (th_A T [])) (F0 m 3 ls []) := by
    intro n
    induction n with
    | zero => intro H locs ls v3_5 iv3_5 hH hS hl hn; exact absurd hn (Nat.not_lt_zero _)
    | succ n ih3 =>
      intro H locs ls v3_5 iv3_5 hH hS hl hn3
      have J93 : ∀ (H : Heap) (locs : List Loc) (ls : Array Slot), IV v3_5 0 29 → th_H D cT T (kd q) H → va_S (th_A T []) s.heap H locs → lv_has ls 7 [(0, .ref a0), (1, .int y1), (2, .int y2), (3, .int y3), (4, .int y4), (5, .int v3_5)] → W p l e (rmk 1 23) s m [.ref a0, .int y1, .int y2, .int y3, .int y4].toArray below meth c H locs 0 0 (MQ below (th_Q D cT T (kd q) (th_R T (some (.inl (0, 1)))) []) [.ref a0, .int y1, .int y2, .int y3, .int y4].toArray s 0 0 (th_A T [])) (F0 m 93 ls []) := by
        intro H locs ls f93_v3_5 hH hS hl
        refine th_iinc S dX9_fits_93 hl (k := 5) rfl (by decide) f93_v3_5 (by decide) (fun x1 ls ex1 ix1 hl => ?_)
        have hl : lv_has ls 7 [(5, .int x1), (0, .ref a0), (1, .int y1), (2, .int y2), (3, .int y3), (4, .int y4)] := hl
        have ix1 : IV x1 1 30 := ix1
        refine lv_goto (tgt := 3) hx hb dX9_fits_96 (by decide) ?_
        exact ih3 H locs ls x1 (iv_w ix1 (by decide)) hH hS (lv_sub hl [1, 2, 3, 4, 5, 0] rfl) (th_up iv3_5 ex1 (by decide) hn3)
      have J81_s0_0 : ∀ (H : Heap) (locs : List Loc) (ls : Array Slot), IV v3_5 0 29 → th_H D cT T (kd q) H → va_S (th_A T []) s.heap H locs → lv_has ls 7 [(0, .ref a0), (1, .int y1), (2, .int y2), (3, .int y3), (4, .int y4), (5, .int v3_5)] → W p l e (rmk 1 23) s m [.ref a0, .int y1, .int y2, .int y3, .int y4].toArray below meth c H locs 0 0 (MQ below (th_Q D cT T (kd q) (th_R T (some (.inl (0, 1)))) []) [.ref a0, .int y1, .int y2, .int y3, .int y4].toArray s 0 0 (th_A T [])) (F0 m 81 ls [.int 0]) := by
        intro H locs ls f81_v3_5 hH hS hl
        refine lv_aload_n hx hb dX9_fits_81 rfl (lv_at hl 0 rfl) ?_
        refine th_get S hK hH inG9 t0 kd_8 rfl 2 (by decide) gm_477 rfl rfl dX9_fits_82 (fun v2 hv2 fv2 => ?_)
        obtain ⟨rf3, rfl, trf3⟩ := th_V.ref hv2
        refine lv_iload hx hb dX9_fits_85 (lv_at hl 5 rfl) ?_
        refine th_zald S hK hH trf3 kd_42 (th_in (hi := 29) f81_v3_5 (by decide)) dX9_fits_87 (fun v4 hv4 => ?_)
        obtain ⟨x5, rfl, ix5⟩ := th_V.int hv4
        refine lv_icmp_eq (tgt := 93) hx hb dX9_fits_88 (by decide) (fun c6 => ?_) (fun c6 => ?_)
        · skip
          have ir7 : IV x5 0 0 := iv_eR c6 (iv_c (by decide) : IV 0 0 0)
          exact J93 H locs ls f81_v3_5 hH hS (lv_sub hl [0, 1, 2, 3, 4, 5] rfl)
        · skip
          refine lv_iconst (v := 0) hx hb dX9_fits_91 (by decide) ?_
          exact th_zret S hK hH hS hr hlocks (iv_w (iv_c (by decide) : IV 0 0 0) (by decide)) (th_R.i (iv_w (iv_c (by decide) : IV 0 0 0) (by decide))) dX9_fits_92
      have J81_s0_1 : ∀ (H : Heap) (locs : List Loc) (ls : Array Slot), IV v3_5 0 29 → th_H D cT T (kd q) H → va_S (th_A T []) s.heap H locs → lv_has ls 7 [(0, .ref a0), (1, .int y1), (2, .int y2), (3, .int y3), (4, .int y4), (5, .int v3_5)] → W p l e (rmk 1 23) s m [.ref a0, .int y1, .int y2, .int y3, .int y4].toArray below meth c H locs 0 0 (MQ below (th_Q D cT T (kd q) (th_R T (some (.inl (0, 1)))) []) [.ref a0, .int y1, .int y2, .int y3, .int y4].toArray s 0 0 (th_A T [])) (F0 m 81 ls [.int 1]) := by
        intro H locs ls f81_v3_5 hH hS hl
        refine lv_aload_n hx hb dX9_fits_81 rfl (lv_at hl 0 rfl) ?_
        refine th_get S hK hH inG9 t0 kd_8 rfl 2 (by decide) gm_477 rfl rfl dX9_fits_82 (fun v8 hv8 fv8 => ?_)
        obtain ⟨rf9, rfl, trf9⟩ := th_V.ref hv8
        refine lv_iload hx hb dX9_fits_85 (lv_at hl 5 rfl) ?_
        refine th_zald S hK hH trf9 kd_42 (th_in (hi := 29) f81_v3_5 (by decide)) dX9_fits_87 (fun v10 hv10 => ?_)
        obtain ⟨x11, rfl, ix11⟩ := th_V.int hv10
        refine lv_icmp_eq (tgt := 93) hx hb dX9_fits_88 (by decide) (fun c12 => ?_) (fun c12 => ?_)
        · skip
          have ir13 : IV x11 1 1 := iv_eR c12 (iv_c (by decide) : IV 1 1 1)
          exact J93 H locs ls f81_v3_5 hH hS (lv_sub hl [0, 1, 2, 3, 4, 5] rfl)
        · skip
          refine lv_iconst (v := 0) hx hb dX9_fits_91 (by decide) ?_
          exact th_zret S hK hH hS hr hlocks (iv_w (iv_c (by decide) : IV 0 0 0) (by decide)) (th_R.i (iv_w (iv_c (by decide) : IV 0 0 0) (by decide))) dX9_fits_92
      refine lv_iload hx hb dX9_fits_3 (lv_at hl 5 rfl) ?_
      refine lv_aload_n hx hb dX9_fits_5 rfl (lv_at hl 0 rfl) ?_
      refine th_get S hK hH inG9 t0 kd_8 rfl 6 (by decide) gm_481 rfl rfl dX9_fits_6 (fun v14 hv14 fv14 => ?_)
      obtain ⟨x15, rfl, ix15⟩ := th_V.int hv14
      refine lv_icmp_ge (tgt := 99) hx hb dX9_fits_9 (by decide) (fun c16 => ?_) (fun c16 => ?_)
      · skip
        refine lv_iconst (v := 1) hx hb dX9_fits_99 (by decide) ?_
        exact th_zret S hK hH hS hr hlocks (iv_w (iv_c (by decide) : IV 1 1 1) (by decide)) (th_R.i (iv_w (iv_c (by decide) : IV 1 1 1) (by decide))) dX9_fits_100
      · skip
        have ir17 : IV v3_5 0 29 := iv_uL iv3_5 ix15 (iv_nle c16) (by decide)
        have ir18 : IV x15 1 30 := iv_uR iv3_5 ix15 (iv_nle c16) (by decide)
        refine lv_aload_n hx hb dX9_fits_12 rfl (lv_at hl 0 rfl) ?_
        refine th_get S hK hH inG9 t0 kd_8 rfl 0 (by decide) gm_475 rfl rfl dX9_fits_13 (fun v19 hv19 fv19 => ?_)
        obtain ⟨rf20, rfl, trf20⟩ := th_V.ref hv19
        refine lv_iload hx hb dX9_fits_16 (lv_at hl 5 rfl) ?_
        refine lv_iconst (v := 3) hx hb dX9_fits_18 (by decide) ?_
        refine lv_imul hx hb dX9_fits_19 ?_
        refine lv_topi (fun x21 ex21 => ?_)
        have ix21 : IV x21 0 87 := by rw [ex21]; exact iv_mul ir17 (iv_c (by decide) : IV 3 3 3) (by decide) (by decide)
        refine th_iald S hK hH trf20 kd_40 (th_in (hi := 87) ix21 (by decide)) dX9_fits_20 (fun v22 hv22 => ?_)
        obtain ⟨x23, rfl, ix23⟩ := th_V.int hv22
        refine lv_iload_n hx hb dX9_fits_21 rfl (lv_at hl 1 rfl) ?_
        refine lv_imul hx hb dX9_fits_22 ?_
        refine lv_topi (fun x24 ex24 => ?_)
        have ix24 := iv_top x24
        refine lv_aload_n hx hb dX9_fits_23 rfl (lv_at hl 0 rfl) ?_
        refine th_getK S hK fv19 inG9 rfl (by decide) gm_475 rfl dX9_fits_24 ?_
        refine lv_iload hx hb dX9_fits_27 (lv_at hl 5 rfl) ?_
        refine lv_iconst (v := 3) hx hb dX9_fits_29 (by decide) ?_
        refine lv_imul hx hb dX9_fits_30 ?_
        refine lv_topi (fun x26 ex26 => ?_)
        have zx26 : x21 = x26 := ex21.trans ex26.symm
        subst zx26
        refine lv_iconst (v := 1) hx hb dX9_fits_31 (by decide) ?_
        refine lv_iadd hx hb dX9_fits_32 ?_
        refine lv_topi (fun x27 ex27 => ?_)
        have ix27 : IV x27 1 88 := by rw [ex27]; exact iv_add ix21 (iv_c (by decide) : IV 1 1 1) (by decide)
        refine th_iald S hK hH trf20 kd_40 (th_in (hi := 88) (iv_w ix27 (by decide)) (by decide)) dX9_fits_33 (fun v28 hv28 => ?_)
        obtain ⟨x29, rfl, ix29⟩ := th_V.int hv28
        refine lv_iload_n hx hb dX9_fits_34 rfl (lv_at hl 2 rfl) ?_
        refine lv_imul hx hb dX9_fits_35 ?_
        refine lv_topi (fun x30 ex30 => ?_)
        have ix30 := iv_top x30
        refine lv_iadd hx hb dX9_fits_36 ?_
        refine lv_topi (fun x31 ex31 => ?_)
        have ix31 := iv_top x31
        refine lv_aload_n hx hb dX9_fits_37 rfl (lv_at hl 0 rfl) ?_
        refine th_getK S hK fv19 inG9 rfl (by decide) gm_475 rfl dX9_fits_38 ?_
        refine lv_iload hx hb dX9_fits_41 (lv_at hl 5 rfl) ?_
        refine lv_iconst (v := 3) hx hb dX9_fits_43 (by decide) ?_
        refine lv_imul hx hb dX9_fits_44 ?_
        refine lv_topi (fun x33 ex33 => ?_)
        have zx33 : x21 = x33 := ex21.trans ex33.symm
        subst zx33
        refine lv_iconst (v := 2) hx hb dX9_fits_45 (by decide) ?_
        refine lv_iadd hx hb dX9_fits_46 ?_
        refine lv_topi (fun x34 ex34 => ?_)
        have ix34 : IV x34 2 89 := by rw [ex34]; exact iv_add ix21 (iv_c (by decide) : IV 2 2 2) (by decide)
        refine th_iald S hK hH trf20 kd_40 (th_in (hi := 89) (iv_w ix34 (by decide)) (by decide)) dX9_fits_47 (fun v35 hv35 => ?_)
        obtain ⟨x36, rfl, ix36⟩ := th_V.int hv35
        refine lv_iload_n hx hb dX9_fits_48 rfl (lv_at hl 3 rfl) ?_
        refine lv_imul hx hb dX9_fits_49 ?_
        refine lv_topi (fun x37 ex37 => ?_)
        have ix37 := iv_top x37
        refine lv_iadd hx hb dX9_fits_50 ?_
        refine lv_topi (fun x38 ex38 => ?_)
        have ix38 := iv_top x38
        refine lv_istore (lv' := [(6, .int x38), (0, .ref a0), (1, .int y1), (2, .int y2), (3, .int y3), (4, .int y4), (5, .int v3_5)]) hx hb dX9_fits_51 hl (by decide) rfl (fun ls hl => ?_)
        refine lv_aload_n hx hb dX9_fits_53 rfl (lv_at hl 1 rfl) ?_
        refine lv_iload hx hb dX9_fits_54 (lv_at hl 6 rfl) ?_
        refine lv_iload hx hb dX9_fits_56 (lv_at hl 5 rfl) ?_
        refine th_callVi (n := 2) (As := [.int v3_5, .int y4]) S hK hH hS (th_A.sub (by decide)) (m_X9_counts l D cT T q hq a0 t0 (v3_5) ir17 (y4) j4) gm_1176 gm_1173 gm_1175 gm_42 gm_123 (by decide +kernel) ⟨rfl, rfl, Nat.le_of_ble_eq_true rfl, Nat.le_of_ble_eq_true rfl⟩ t0 kd_8 rfl rfl hl.1 rfl (Nat.le_of_ble_eq_true rfl) dX9_fits_58 ⟨Nat.zero_le _, Nat.zero_le _⟩ (fun x39 H locs ix39 hH hS hF1 => ?_)
        have f40 := fv19.kept (hF1 _ fv19.lt (th_off t0 (by decide)))
        refine lv_if_eq (tgt := 93) hx hb dX9_fits_61 (by decide) (fun c41 => ?_) (fun c41 => ?_)
        · skip
          have ir42 : IV x39 0 0 := iv_eL c41 (iv_c (by decide) : IV 0 0 0)
          exact J93 H locs ls ir17 hH hS (lv_sub hl [1, 2, 3, 4, 5, 6] rfl)
        · skip
          have ir43 : IV x39 1 1 := iv_cutL ix39 (iv_c (by decide) : IV 0 0 0) c41 (by decide)
          refine lv_iload hx hb dX9_fits_64 (lv_at hl 0 rfl) ?_
          refine lv_aload_n hx hb dX9_fits_66 rfl (lv_at hl 1 rfl) ?_
          refine th_get S hK hH inG9 t0 kd_8 rfl 1 (by decide) gm_476 rfl rfl dX9_fits_67 (fun v44 hv44 fv44 => ?_)
          obtain ⟨rf45, rfl, trf45⟩ := th_V.ref hv44
          refine lv_iload hx hb dX9_fits_70 (lv_at hl 6 rfl) ?_
          refine th_iald S hK hH trf45 kd_41 (th_in (hi := 29) ir17 (by decide)) dX9_fits_72 (fun v46 hv46 => ?_)
          obtain ⟨x47, rfl, ix47⟩ := th_V.int hv46
          refine lv_icmp_lt (tgt := 80) hx hb dX9_fits_73 (by decide) (fun c48 => ?_) (fun c48 => ?_)
          · skip
            have ir49 : IV x38 (-2147483648) 2147483646 := iv_uL ix38 ix47 (iv_lt c48) (by decide)
            have ir50 : IV x47 (-2147483647) 2147483647 := iv_uR ix38 ix47 (iv_lt c48) (by decide)
            refine lv_iconst (v := 0) hx hb dX9_fits_80 (by decide) ?_
            exact J81_s0_0 H locs ls ir17 hH hS (lv_sub hl [1, 2, 3, 4, 5, 6] rfl)
          · skip
            refine lv_iconst (v := 1) hx hb dX9_fits_76 (by decide) ?_
            refine lv_goto (tgt := 81) hx hb dX9_fits_77 (by decide) ?_
            exact J81_s0_1 H locs ls ir17 hH hS (lv_sub hl [1, 2, 3, 4, 5, 6] rfl)
  have J0 : ∀ (H : Heap) (locs : List Loc) (ls : Array Slot), th_H D cT T (kd q) H → va_S (th_A T []) s.heap H locs → lv_has ls 7 [(0, .ref a0), (1, .int y1), (2, .int y2), (3, .int y3), (4, .int y4)] → W p l e (rmk 1 23) s m [.ref a0, .int y1, .int y2, .int y3, .int y4].toArray below meth c H locs 0 0 (MQ below (th_Q D cT T (kd q) (th_R T (some (.inl (0, 1)))) []) [.ref a0, .int y1, .int y2, .int y3, .int y4].toArray s 0 0 (th_A T [])) (F0 m 0 ls []) := by
    intro H locs ls hH hS hl
    refine lv_iconst (v := 0) hx hb dX9_fits_0 (by decide) ?_
    refine lv_istore (lv' := [(5, .int 0), (0, .ref a0), (1, .int y1), (2, .int y2), (3, .int y3), (4, .int y4)]) hx hb dX9_fits_1 hl (by decide) rfl (fun ls hl => ?_)
    exact J3 ((30 + 1 - Int32.toInt 0).toNat + 1) H locs ls 0 (iv_w (iv_c (by decide) : IV 0 0 0) (by decide)) hH hS (lv_sub hl [1, 2, 3, 4, 5, 0] rfl) (Nat.lt_succ_self _)
  exact J0 s.heap [] ls hH va_S.rf hl

set_option maxRecDepth 100000 in
theorem m_X9_countFitting (l : Launch) (D : va_G) (cT : Nat → ClassId) (T : Nat → Option Nat) (q : Nat → Int) (hq : qok q) (a0 : Nat) (t0 : T a0 = some 8) (y1 : Int32) (j1 : IV y1 0 3) (y2 : Int32) (j2 : IV y2 (-2147483648) 2147483647) : th_Met l D cT T (kd q) yX9_countFitting cX9_countFitting 10 (some .int) (rmk 2 49) [.ref a0, .int y1, .int y2] (th_R T (some (.inl (-2147483648, 2147483647)))) [45] := by
  refine th_start (by decide) (Nat.le_of_ble_eq_true rfl) ?_
  intro p e s m below meth c ls S hK hH hr hlocks hnm hl
  have hx := S.1
  have hb := S.2.1
  have hl : lv_has ls 10 [(0, .ref a0), (1, .int y1), (2, .int y2)] := hl
  have J51 : ∀ (n : Nat) (H : Heap) (locs : List Loc) (ls : Array Slot) (v51_3 : Int32) (v51_4 : Int32) (v51_5 : Int32) (v51_6 : Int32) (v51_7 : Int32), IV v51_3 1 6 → IV v51_4 1 6 → IV v51_5 1 6 → IV v51_6 (-2147483648) 2147483647 → IV v51_7 0 6 → th_H D cT T (kd q) H → va_S (th_A T [45]) s.heap H locs → lv_has ls 10 [(0, .ref a0), (2, .int y2), (3, .int v51_3), (4, .int v51_4), (5, .int v51_5), (6, .int v51_6), (7, .int v51_7)] → (6 + 1 - v51_7.toInt).toNat < n → W p l e (rmk 2 49) s m [.ref a0, .int y1, .int y2].toArray below meth c H locs 0 0 (MQ below (th_Q D cT T (kd q) (th_R T (some (.inl (-2147483648, 2147483647)))) [45]) [.ref a0, .int y1, .int y2].toArray s 0 0 (th_A T [45])) (F0 m 51 ls []) := by
    intro n
    induction n with
    | zero => intro H locs ls v51_3 v51_4 v51_5 v51_6 v51_7 iv51_3 iv51_4 iv51_5 iv51_6 iv51_7 hH hS hl hn; exact absurd hn (Nat.not_lt_zero _)
    | succ n ih51 =>
      intro H locs ls v51_3 v51_4 v51_5 v51_6 v51_7 iv51_3 iv51_4 iv51_5 iv51_6 iv51_7 hH hS hl hn51
      have J60 : ∀ (n : Nat) (H : Heap) (locs : List Loc) (ls : Array Slot) (v60_6 : Int32) (v60_8 : Int32), IV v60_6 (-2147483648) 2147483647 → IV v60_8 0 6 → IV v51_7 0 5 → th_H D cT T (kd q) H → va_S (th_A T [45]) s.heap H locs → lv_has ls 10 [(0, .ref a0), (2, .int y2), (3, .int v51_3), (4, .int v51_4), (5, .int v51_5), (6, .int v60_6), (7, .int v51_7), (8, .int v60_8)] → (6 + 1 - v60_8.toInt).toNat < n → W p l e (rmk 2 49) s m [.ref a0, .int y1, .int y2].toArray below meth c H locs 0 0 (MQ below (th_Q D cT T (kd q) (th_R T (some (.inl (-2147483648, 2147483647)))) [45]) [.ref a0, .int y1, .int y2].toArray s 0 0 (th_A T [45])) (F0 m 60 ls []) := by
        intro n
        induction n with
        | zero => intro H locs ls v60_6 v60_8 iv60_6 iv60_8 f60_v51_7 hH hS hl hn; exact absurd hn (Nat.not_lt_zero _)
        | succ n ih60 =>
          intro H locs ls v60_6 v60_8 iv60_6 iv60_8 f60_v51_7 hH hS hl hn60
          have J70 : ∀ (n : Nat) (H : Heap) (locs : List Loc) (ls : Array Slot) (v70_6 : Int32) (v70_9 : Int32), IV v70_6 (-2147483648) 2147483647 → IV v70_9 0 6 → IV v51_7 0 5 → IV v60_8 0 5 → th_H D cT T (kd q) H → va_S (th_A T [45]) s.heap H locs → lv_has ls 10 [(0, .ref a0), (2, .int y2), (3, .int v51_3), (4, .int v51_4), (5, .int v51_5), (6, .int v70_6), (7, .int v51_7), (8, .int v60_8), (9, .int v70_9)] → (6 + 1 - v70_9.toInt).toNat < n → W p l e (rmk 2 49) s m [.ref a0, .int y1, .int y2].toArray below meth c H locs 0 0 (MQ below (th_Q D cT T (kd q) (th_R T (some (.inl (-2147483648, 2147483647)))) [45]) [.ref a0, .int y1, .int y2].toArray s 0 0 (th_A T [45])) (F0 m 70 ls []) := by
            intro n
            induction n with
            | zero => intro H locs ls v70_6 v70_9 iv70_6 iv70_9 f70_v51_7 f70_v60_8 hH hS hl hn; exact absurd hn (Nat.not_lt_zero _)
            | succ n ih70 =>
              intro H locs ls v70_6 v70_9 iv70_6 iv70_9 f70_v51_7 f70_v60_8 hH hS hl hn70
              have J133 : ∀ (H : Heap) (locs : List Loc) (ls : Array Slot) (v133_6 : Int32), IV v133_6 (-2147483648) 2147483647 → IV v51_7 0 5 → IV v60_8 0 5 → IV v70_9 0 5 → th_H D cT T (kd q) H → va_S (th_A T [45]) s.heap H locs → lv_has ls 10 [(0, .ref a0), (2, .int y2), (3, .int v51_3), (4, .int v51_4), (5, .int v51_5), (6, .int v133_6), (7, .int v51_7), (8, .int v60_8), (9, .int v70_9)] → W p l e (rmk 2 49) s m [.ref a0, .int y1, .int y2].toArray below meth c H locs 0 0 (MQ below (th_Q D cT T (kd q) (th_R T (some (.inl (-2147483648, 2147483647)))) [45]) [.ref a0, .int y1, .int y2].toArray s 0 0 (th_A T [45])) (F0 m 133 ls []) := by
                intro H locs ls v133_6 iv133_6 f133_v51_7 f133_v60_8 f133_v70_9 hH hS hl
                refine th_iinc S dX9_countFitting_133 hl (k := 8) rfl (by decide) f133_v70_9 (by decide) (fun x1 ls ex1 ix1 hl => ?_)
                have hl : lv_has ls 10 [(9, .int x1), (0, .ref a0), (2, .int y2), (3, .int v51_3), (4, .int v51_4), (5, .int v51_5), (6, .int v133_6), (7, .int v51_7), (8, .int v60_8)] := hl
                have ix1 : IV x1 1 6 := ix1
                refine lv_goto (tgt := 70) hx hb dX9_countFitting_136 (by decide) ?_
                exact ih70 H locs ls v133_6 x1 iv133_6 (iv_w ix1 (by decide)) f133_v51_7 f133_v60_8 hH hS (lv_sub hl [1, 2, 3, 4, 5, 6, 7, 8, 0] rfl) (th_up iv70_9 ex1 (by decide) hn70)
              refine lv_iload hx hb dX9_countFitting_70 (lv_at hl 8 rfl) ?_
              refine lv_iload hx hb dX9_countFitting_72 (lv_at hl 4 rfl) ?_
              refine lv_icmp_ge (tgt := 139) hx hb dX9_countFitting_74 (by decide) (fun c2 => ?_) (fun c2 => ?_)
              · skip
                have ir3 : IV v70_9 1 6 := iv_vR iv51_5 iv70_9 (iv_le c2) (by decide)
                refine th_iinc S dX9_countFitting_139 hl (k := 7) rfl (by decide) f70_v60_8 (by decide) (fun x4 ls ex4 ix4 hl => ?_)
                have hl : lv_has ls 10 [(8, .int x4), (0, .ref a0), (2, .int y2), (3, .int v51_3), (4, .int v51_4), (5, .int v51_5), (6, .int v70_6), (7, .int v51_7), (9, .int v70_9)] := hl
                have ix4 : IV x4 1 6 := ix4
                refine lv_goto (tgt := 60) hx hb dX9_countFitting_142 (by decide) ?_
                exact ih60 H locs ls v70_6 x4 iv70_6 (iv_w ix4 (by decide)) f70_v51_7 hH hS (lv_sub hl [1, 2, 3, 4, 5, 6, 7, 0] rfl) (th_up iv60_8 ex4 (by decide) hn60)
              · skip
                have ir5 : IV v70_9 0 5 := iv_uL iv70_9 iv51_5 (iv_nle c2) (by decide)
                refine lv_aload_n hx hb dX9_countFitting_77 rfl (lv_at hl 0 rfl) ?_
                refine lv_iload hx hb dX9_countFitting_78 (lv_at hl 6 rfl) ?_
                refine lv_iload hx hb dX9_countFitting_80 (lv_at hl 7 rfl) ?_
                refine lv_iload hx hb dX9_countFitting_82 (lv_at hl 8 rfl) ?_
                refine lv_iload_n hx hb dX9_countFitting_84 rfl (lv_at hl 1 rfl) ?_
                refine th_callVi (n := 4) (As := [.int v51_7, .int v60_8, .int v70_9, .int y2]) S hK hH hS (th_A.sub (by decide)) (m_X9_fits l D cT T q hq a0 t0 (v51_7) (iv_top _) (v60_8) (iv_top _) (v70_9) (iv_top _) (y2) j2) gm_1172 gm_1169 gm_1171 gm_41 gm_123 (by decide +kernel) ⟨rfl, rfl, Nat.le_of_ble_eq_true rfl, Nat.le_of_ble_eq_true rfl⟩ t0 kd_8 rfl rfl hl.1 rfl (Nat.le_of_ble_eq_true rfl) dX9_countFitting_85 ⟨Nat.zero_le _, Nat.zero_le _⟩ (fun x6 H locs ix6 hH hS hF1 => ?_)
                refine lv_if_eq (tgt := 133) hx hb dX9_countFitting_88 (by decide) (fun c7 => ?_) (fun c7 => ?_)
                · skip
                  have ir8 : IV x6 0 0 := iv_eL c7 (iv_c (by decide) : IV 0 0 0)
                  exact J133 H locs ls v70_6 iv70_6 f70_v51_7 f70_v60_8 ir5 hH hS (lv_sub hl [0, 1, 2, 3, 4, 5, 6, 7, 8] rfl)
                · skip
                  have ir9 : IV x6 1 1 := iv_cutL ix6 (iv_c (by decide) : IV 0 0 0) c7 (by decide)
                  obtain ⟨x10, ex10⟩ : ∃ z : Int32, z = v70_6 + Int32.ofInt 1 := ⟨_, rfl⟩
                  refine lv_iinc (v := x10) (lv' := [(6, .int x10), (0, .ref a0), (2, .int y2), (3, .int v51_3), (4, .int v51_4), (5, .int v51_5), (7, .int v51_7), (8, .int v60_8), (9, .int v70_9)]) hx hb dX9_countFitting_91 hl (k := 5) rfl (by rw [ex10]) (by decide) rfl (fun ls hl => ?_)
                  have ix10 := iv_top x10
                  refine lv_aload_n hx hb dX9_countFitting_94 rfl (lv_at hl 1 rfl) ?_
                  refine th_get S hK hH inG9 t0 kd_8 rfl 5 (by decide) gm_480 rfl rfl dX9_countFitting_95 (fun v11 hv11 fv11 => ?_)
                  obtain ⟨rf12, rfl, trf12⟩ := th_V.ref hv11
                  refine lv_iload hx hb dX9_countFitting_98 (lv_at hl 6 rfl) ?_
                  refine lv_dup2_11 hx hb dX9_countFitting_100 rfl rfl ?_
                  refine th_iald S hK hH trf12 kd_45 (th_in (hi := 5) f70_v51_7 (by decide)) dX9_countFitting_101 (fun v13 hv13 => ?_)
                  obtain ⟨x14, rfl, ix14⟩ := th_V.int hv13
                  refine lv_iconst (v := 1) hx hb dX9_countFitting_102 (by decide) ?_
                  refine lv_iadd hx hb dX9_countFitting_103 ?_
                  refine lv_topi (fun x15 ex15 => ?_)
                  have ix15 := iv_top x15
                  refine th_iast S hK hH hS ⟨45, by decide, trf12⟩ trf12 kd_45 (th_in (hi := 5) f70_v51_7 (by decide)) (th_iv ix15) dX9_countFitting_104 (fun H locs hH hS hq1 => ?_)
                  have f16 := fv11.kept (hq1 _ (th_ne t0 trf12 (by decide)))
                  refine lv_aload_n hx hb dX9_countFitting_105 rfl (lv_at hl 1 rfl) ?_
                  refine th_getK S hK f16 inG9 rfl (by decide) gm_480 rfl dX9_countFitting_106 ?_
                  refine lv_bipush (v := 6) hx hb dX9_countFitting_109 (by decide) ?_
                  refine lv_iload hx hb dX9_countFitting_111 (lv_at hl 7 rfl) ?_
                  refine lv_iadd hx hb dX9_countFitting_113 ?_
                  refine lv_topi (fun x18 ex18 => ?_)
                  have ix18 : IV x18 6 11 := by rw [ex18]; exact iv_add (iv_c (by decide) : IV 6 6 6) f70_v60_8 (by decide)
                  refine lv_dup2_11 hx hb dX9_countFitting_114 rfl rfl ?_
                  refine th_iald S hK hH trf12 kd_45 (th_in (hi := 11) (iv_w ix18 (by decide)) (by decide)) dX9_countFitting_115 (fun v19 hv19 => ?_)
                  obtain ⟨x20, rfl, ix20⟩ := th_V.int hv19
                  refine lv_iconst (v := 1) hx hb dX9_countFitting_116 (by decide) ?_
                  refine lv_iadd hx hb dX9_countFitting_117 ?_
                  refine lv_topi (fun x21 ex21 => ?_)
                  have ix21 := iv_top x21
                  refine th_iast S hK hH hS ⟨45, by decide, trf12⟩ trf12 kd_45 (th_in (hi := 11) (iv_w ix18 (by decide)) (by decide)) (th_iv ix21) dX9_countFitting_118 (fun H locs hH hS hq1 => ?_)
                  have f22 := f16.kept (hq1 _ (th_ne t0 trf12 (by decide)))
                  refine lv_aload_n hx hb dX9_countFitting_119 rfl (lv_at hl 1 rfl) ?_
                  refine th_getK S hK f22 inG9 rfl (by decide) gm_480 rfl dX9_countFitting_120 ?_
                  refine lv_bipush (v := 12) hx hb dX9_countFitting_123 (by decide) ?_
                  refine lv_iload hx hb dX9_countFitting_125 (lv_at hl 8 rfl) ?_
                  refine lv_iadd hx hb dX9_countFitting_127 ?_
                  refine lv_topi (fun x24 ex24 => ?_)
                  have ix24 : IV x24 12 17 := by rw [ex24]; exact iv_add (iv_c (by decide) : IV 12 12 12) ir5 (by decide)
                  refine lv_dup2_11 hx hb dX9_countFitting_128 rfl rfl ?_
                  refine th_iald S hK hH trf12 kd_45 (th_in (hi := 17) (iv_w ix24 (by decide)) (by decide)) dX9_countFitting_129 (fun v25 hv25 => ?_)
                  obtain ⟨x26, rfl, ix26⟩ := th_V.int hv25
                  refine lv_iconst (v := 1) hx hb dX9_countFitting_130 (by decide) ?_
                  refine lv_iadd hx hb dX9_countFitting_131 ?_
                  refine lv_topi (fun x27 ex27 => ?_)
                  have ix27 := iv_top x27
                  refine th_iast S hK hH hS ⟨45, by decide, trf12⟩ trf12 kd_45 (th_in (hi := 17) (iv_w ix24 (by decide)) (by decide)) (th_iv ix27) dX9_countFitting_132 (fun H locs hH hS hq1 => ?_)
                  have f28 := f22.kept (hq1 _ (th_ne t0 trf12 (by decide)))
                  exact J133 H locs ls x10 ix10 f70_v51_7 f70_v60_8 ir5 hH hS (lv_sub hl [1, 2, 3, 4, 5, 0, 6, 7, 8] rfl)
          refine lv_iload hx hb dX9_countFitting_60 (lv_at hl 7 rfl) ?_
          refine lv_iload hx hb dX9_countFitting_62 (lv_at hl 3 rfl) ?_
          refine lv_icmp_ge (tgt := 145) hx hb dX9_countFitting_64 (by decide) (fun c29 => ?_) (fun c29 => ?_)
          · skip
            have ir30 : IV v60_8 1 6 := iv_vR iv51_4 iv60_8 (iv_le c29) (by decide)
            refine th_iinc S dX9_countFitting_145 hl (k := 6) rfl (by decide) f60_v51_7 (by decide) (fun x31 ls ex31 ix31 hl => ?_)
            have hl : lv_has ls 10 [(7, .int x31), (0, .ref a0), (2, .int y2), (3, .int v51_3), (4, .int v51_4), (5, .int v51_5), (6, .int v60_6), (8, .int v60_8)] := hl
            have ix31 : IV x31 1 6 := ix31
            refine lv_goto (tgt := 51) hx hb dX9_countFitting_148 (by decide) ?_
            exact ih51 H locs ls v51_3 v51_4 v51_5 v60_6 x31 iv51_3 iv51_4 iv51_5 iv60_6 (iv_w ix31 (by decide)) hH hS (lv_sub hl [1, 2, 3, 4, 5, 6, 0] rfl) (th_up iv51_7 ex31 (by decide) hn51)
          · skip
            have ir32 : IV v60_8 0 5 := iv_uL iv60_8 iv51_4 (iv_nle c29) (by decide)
            refine lv_iconst (v := 0) hx hb dX9_countFitting_67 (by decide) ?_
            refine lv_istore (lv' := [(9, .int 0), (0, .ref a0), (2, .int y2), (3, .int v51_3), (4, .int v51_4), (5, .int v51_5), (6, .int v60_6), (7, .int v51_7), (8, .int v60_8)]) hx hb dX9_countFitting_68 hl (by decide) rfl (fun ls hl => ?_)
            exact J70 ((6 + 1 - Int32.toInt 0).toNat + 1) H locs ls v60_6 0 iv60_6 (iv_w (iv_c (by decide) : IV 0 0 0) (by decide)) f60_v51_7 ir32 hH hS (lv_sub hl [1, 2, 3, 4, 5, 6, 7, 8, 0] rfl) (Nat.lt_succ_self _)
      refine lv_iload hx hb dX9_countFitting_51 (lv_at hl 6 rfl) ?_
      refine lv_iload_n hx hb dX9_countFitting_53 rfl (lv_at hl 2 rfl) ?_
      refine lv_icmp_ge (tgt := 151) hx hb dX9_countFitting_54 (by decide) (fun c33 => ?_) (fun c33 => ?_)
      · skip
        have ir34 : IV v51_7 1 6 := iv_vR iv51_3 iv51_7 (iv_le c33) (by decide)
        refine lv_iload hx hb dX9_countFitting_151 (lv_at hl 5 rfl) ?_
        exact th_iret S hK hH hS hr hlocks (th_R.i iv51_6) dX9_countFitting_153
      · skip
        have ir35 : IV v51_7 0 5 := iv_uL iv51_7 iv51_3 (iv_nle c33) (by decide)
        refine lv_iconst (v := 0) hx hb dX9_countFitting_57 (by decide) ?_
        refine lv_istore (lv' := [(8, .int 0), (0, .ref a0), (2, .int y2), (3, .int v51_3), (4, .int v51_4), (5, .int v51_5), (6, .int v51_6), (7, .int v51_7)]) hx hb dX9_countFitting_58 hl (by decide) rfl (fun ls hl => ?_)
        exact J60 ((6 + 1 - Int32.toInt 0).toNat + 1) H locs ls v51_6 0 iv51_6 (iv_w (iv_c (by decide) : IV 0 0 0) (by decide)) ir35 hH hS (lv_sub hl [1, 2, 3, 4, 5, 6, 7, 0] rfl) (Nat.lt_succ_self _)
  have J43_s0_1 : ∀ (H : Heap) (locs : List Loc) (ls : Array Slot) (v43_3 : Int32) (v43_4 : Int32), IV v43_3 1 6 → IV v43_4 1 6 → th_H D cT T (kd q) H → va_S (th_A T [45]) s.heap H locs → lv_has ls 10 [(0, .ref a0), (2, .int y2), (3, .int v43_3), (4, .int v43_4)] → W p l e (rmk 2 49) s m [.ref a0, .int y1, .int y2].toArray below meth c H locs 0 0 (MQ below (th_Q D cT T (kd q) (th_R T (some (.inl (-2147483648, 2147483647)))) [45]) [.ref a0, .int y1, .int y2].toArray s 0 0 (th_A T [45])) (F0 m 43 ls [.int 1]) := by
    intro H locs ls v43_3 v43_4 iv43_3 iv43_4 hH hS hl
    refine lv_istore (lv' := [(5, .int 1), (0, .ref a0), (2, .int y2), (3, .int v43_3), (4, .int v43_4)]) hx hb dX9_countFitting_43 hl (by decide) rfl (fun ls hl => ?_)
    refine lv_iconst (v := 0) hx hb dX9_countFitting_45 (by decide) ?_
    refine lv_istore (lv' := [(6, .int 0), (5, .int 1), (0, .ref a0), (2, .int y2), (3, .int v43_3), (4, .int v43_4)]) hx hb dX9_countFitting_46 hl (by decide) rfl (fun ls hl => ?_)
    refine lv_iconst (v := 0) hx hb dX9_countFitting_48 (by decide) ?_
    refine lv_istore (lv' := [(7, .int 0), (6, .int 0), (5, .int 1), (0, .ref a0), (2, .int y2), (3, .int v43_3), (4, .int v43_4)]) hx hb dX9_countFitting_49 hl (by decide) rfl (fun ls hl => ?_)
    exact J51 ((6 + 1 - Int32.toInt 0).toNat + 1) H locs ls v43_3 v43_4 1 0 0 iv43_3 iv43_4 (iv_w (iv_c (by decide) : IV 1 1 1) (by decide)) (iv_top _) (iv_w (iv_c (by decide) : IV 0 0 0) (by decide)) hH hS (lv_sub hl [3, 4, 5, 6, 2, 1, 0] rfl) (Nat.lt_succ_self _)
  have J43_s0_6 : ∀ (H : Heap) (locs : List Loc) (ls : Array Slot) (v43_3 : Int32) (v43_4 : Int32), IV v43_3 6 6 → IV v43_4 6 6 → th_H D cT T (kd q) H → va_S (th_A T [45]) s.heap H locs → lv_has ls 10 [(0, .ref a0), (2, .int y2), (3, .int v43_3), (4, .int v43_4)] → W p l e (rmk 2 49) s m [.ref a0, .int y1, .int y2].toArray below meth c H locs 0 0 (MQ below (th_Q D cT T (kd q) (th_R T (some (.inl (-2147483648, 2147483647)))) [45]) [.ref a0, .int y1, .int y2].toArray s 0 0 (th_A T [45])) (F0 m 43 ls [.int 6]) := by
    intro H locs ls v43_3 v43_4 iv43_3 iv43_4 hH hS hl
    refine lv_istore (lv' := [(5, .int 6), (0, .ref a0), (2, .int y2), (3, .int v43_3), (4, .int v43_4)]) hx hb dX9_countFitting_43 hl (by decide) rfl (fun ls hl => ?_)
    refine lv_iconst (v := 0) hx hb dX9_countFitting_45 (by decide) ?_
    refine lv_istore (lv' := [(6, .int 0), (5, .int 6), (0, .ref a0), (2, .int y2), (3, .int v43_3), (4, .int v43_4)]) hx hb dX9_countFitting_46 hl (by decide) rfl (fun ls hl => ?_)
    refine lv_iconst (v := 0) hx hb dX9_countFitting_48 (by decide) ?_
    refine lv_istore (lv' := [(7, .int 0), (6, .int 0), (5, .int 6), (0, .ref a0), (2, .int y2), (3, .int v43_3), (4, .int v43_4)]) hx hb dX9_countFitting_49 hl (by decide) rfl (fun ls hl => ?_)
    exact J51 ((6 + 1 - Int32.toInt 0).toNat + 1) H locs ls v43_3 v43_4 6 0 0 (iv_w iv43_3 (by decide)) (iv_w iv43_4 (by decide)) (iv_w (iv_c (by decide) : IV 6 6 6) (by decide)) (iv_top _) (iv_w (iv_c (by decide) : IV 0 0 0) (by decide)) hH hS (lv_sub hl [3, 4, 5, 6, 2, 1, 0] rfl) (Nat.lt_succ_self _)
  have J30_s0_1 : ∀ (H : Heap) (locs : List Loc) (ls : Array Slot) (v30_3 : Int32), IV v30_3 1 6 → IV y1 0 1 → th_H D cT T (kd q) H → va_S (th_A T [45]) s.heap H locs → lv_has ls 10 [(0, .ref a0), (1, .int y1), (2, .int y2), (3, .int v30_3)] → W p l e (rmk 2 49) s m [.ref a0, .int y1, .int y2].toArray below meth c H locs 0 0 (MQ below (th_Q D cT T (kd q) (th_R T (some (.inl (-2147483648, 2147483647)))) [45]) [.ref a0, .int y1, .int y2].toArray s 0 0 (th_A T [45])) (F0 m 30 ls [.int 1]) := by
    intro H locs ls v30_3 iv30_3 f30_y1 hH hS hl
    refine lv_istore (lv' := [(4, .int 1), (0, .ref a0), (1, .int y1), (2, .int y2), (3, .int v30_3)]) hx hb dX9_countFitting_30 hl (by decide) rfl (fun ls hl => ?_)
    refine lv_iload_n hx hb dX9_countFitting_32 rfl (lv_at hl 2 rfl) ?_
    refine lv_iconst (v := 2) hx hb dX9_countFitting_33 (by decide) ?_
    refine lv_icmp_le (tgt := 42) hx hb dX9_countFitting_34 (by decide) (fun c36 => ?_) (fun c36 => ?_)
    · skip
      refine lv_iconst (v := 1) hx hb dX9_countFitting_42 (by decide) ?_
      exact J43_s0_1 H locs ls v30_3 1 iv30_3 (iv_w (iv_c (by decide) : IV 1 1 1) (by decide)) hH hS (lv_sub hl [1, 3, 4, 0] rfl)
    · skip
      exfalso
      have z1 := iv_nle c36
      have z2 := ((iv_c (by decide) : IV 2 2 2)).1
      have z3 := ((iv_c (by decide) : IV 2 2 2)).2
      have z4 := (f30_y1).1
      have z5 := (f30_y1).2
      omega
  have J30_s0_6 : ∀ (H : Heap) (locs : List Loc) (ls : Array Slot) (v30_3 : Int32), IV v30_3 6 6 → IV y1 2 3 → th_H D cT T (kd q) H → va_S (th_A T [45]) s.heap H locs → lv_has ls 10 [(0, .ref a0), (1, .int y1), (2, .int y2), (3, .int v30_3)] → W p l e (rmk 2 49) s m [.ref a0, .int y1, .int y2].toArray below meth c H locs 0 0 (MQ below (th_Q D cT T (kd q) (th_R T (some (.inl (-2147483648, 2147483647)))) [45]) [.ref a0, .int y1, .int y2].toArray s 0 0 (th_A T [45])) (F0 m 30 ls [.int 6]) := by
    intro H locs ls v30_3 iv30_3 f30_y1 hH hS hl
    refine lv_istore (lv' := [(4, .int 6), (0, .ref a0), (1, .int y1), (2, .int y2), (3, .int v30_3)]) hx hb dX9_countFitting_30 hl (by decide) rfl (fun ls hl => ?_)
    refine lv_iload_n hx hb dX9_countFitting_32 rfl (lv_at hl 2 rfl) ?_
    refine lv_iconst (v := 2) hx hb dX9_countFitting_33 (by decide) ?_
    refine lv_icmp_le (tgt := 42) hx hb dX9_countFitting_34 (by decide) (fun c37 => ?_) (fun c37 => ?_)
    · skip
      have ir38 : IV y1 2 2 := iv_vL f30_y1 (iv_c (by decide) : IV 2 2 2) (iv_le c37) (by decide)
      refine lv_iconst (v := 1) hx hb dX9_countFitting_42 (by decide) ?_
      exact J43_s0_1 H locs ls v30_3 6 (iv_w iv30_3 (by decide)) (iv_w (iv_c (by decide) : IV 6 6 6) (by decide)) hH hS (lv_sub hl [1, 3, 4, 0] rfl)
    · skip
      have ir39 : IV y1 3 3 := iv_uR (iv_c (by decide) : IV 2 2 2) f30_y1 (iv_nle c37) (by decide)
      refine lv_bipush (v := 6) hx hb dX9_countFitting_37 (by decide) ?_
      refine lv_goto (tgt := 43) hx hb dX9_countFitting_39 (by decide) ?_
      exact J43_s0_6 H locs ls v30_3 6 iv30_3 (iv_c (by decide) : IV 6 6 6) hH hS (lv_sub hl [1, 3, 4, 0] rfl)
  have J18_s0_1 : ∀ (H : Heap) (locs : List Loc) (ls : Array Slot), IV y1 0 0 → th_H D cT T (kd q) H → va_S (th_A T [45]) s.heap H locs → lv_has ls 10 [(0, .ref a0), (1, .int y1), (2, .int y2)] → W p l e (rmk 2 49) s m [.ref a0, .int y1, .int y2].toArray below meth c H locs 0 0 (MQ below (th_Q D cT T (kd q) (th_R T (some (.inl (-2147483648, 2147483647)))) [45]) [.ref a0, .int y1, .int y2].toArray s 0 0 (th_A T [45])) (F0 m 18 ls [.int 1]) := by
    intro H locs ls f18_y1 hH hS hl
    refine lv_istore_n (lv' := [(3, .int 1), (0, .ref a0), (1, .int y1), (2, .int y2)]) hx hb dX9_countFitting_18 rfl hl (by decide) rfl (fun ls hl => ?_)
    refine lv_iload_n hx hb dX9_countFitting_19 rfl (lv_at hl 2 rfl) ?_
    refine lv_iconst (v := 1) hx hb dX9_countFitting_20 (by decide) ?_
    refine lv_icmp_le (tgt := 29) hx hb dX9_countFitting_21 (by decide) (fun c40 => ?_) (fun c40 => ?_)
    · skip
      refine lv_iconst (v := 1) hx hb dX9_countFitting_29 (by decide) ?_
      exact J30_s0_1 H locs ls 1 (iv_w (iv_c (by decide) : IV 1 1 1) (by decide)) (iv_w f18_y1 (by decide)) hH hS (lv_sub hl [1, 2, 3, 0] rfl)
    · skip
      exfalso
      have z1 := iv_nle c40
      have z2 := ((iv_c (by decide) : IV 1 1 1)).1
      have z3 := ((iv_c (by decide) : IV 1 1 1)).2
      have z4 := (f18_y1).1
      have z5 := (f18_y1).2
      omega
  have J18_s0_6 : ∀ (H : Heap) (locs : List Loc) (ls : Array Slot), IV y1 1 3 → th_H D cT T (kd q) H → va_S (th_A T [45]) s.heap H locs → lv_has ls 10 [(0, .ref a0), (1, .int y1), (2, .int y2)] → W p l e (rmk 2 49) s m [.ref a0, .int y1, .int y2].toArray below meth c H locs 0 0 (MQ below (th_Q D cT T (kd q) (th_R T (some (.inl (-2147483648, 2147483647)))) [45]) [.ref a0, .int y1, .int y2].toArray s 0 0 (th_A T [45])) (F0 m 18 ls [.int 6]) := by
    intro H locs ls f18_y1 hH hS hl
    refine lv_istore_n (lv' := [(3, .int 6), (0, .ref a0), (1, .int y1), (2, .int y2)]) hx hb dX9_countFitting_18 rfl hl (by decide) rfl (fun ls hl => ?_)
    refine lv_iload_n hx hb dX9_countFitting_19 rfl (lv_at hl 2 rfl) ?_
    refine lv_iconst (v := 1) hx hb dX9_countFitting_20 (by decide) ?_
    refine lv_icmp_le (tgt := 29) hx hb dX9_countFitting_21 (by decide) (fun c41 => ?_) (fun c41 => ?_)
    · skip
      have ir42 : IV y1 1 1 := iv_vL f18_y1 (iv_c (by decide) : IV 1 1 1) (iv_le c41) (by decide)
      refine lv_iconst (v := 1) hx hb dX9_countFitting_29 (by decide) ?_
      exact J30_s0_1 H locs ls 6 (iv_w (iv_c (by decide) : IV 6 6 6) (by decide)) (iv_w ir42 (by decide)) hH hS (lv_sub hl [1, 2, 3, 0] rfl)
    · skip
      have ir43 : IV y1 2 3 := iv_uR (iv_c (by decide) : IV 1 1 1) f18_y1 (iv_nle c41) (by decide)
      refine lv_bipush (v := 6) hx hb dX9_countFitting_24 (by decide) ?_
      refine lv_goto (tgt := 30) hx hb dX9_countFitting_26 (by decide) ?_
      exact J30_s0_6 H locs ls 6 (iv_c (by decide) : IV 6 6 6) ir43 hH hS (lv_sub hl [1, 2, 3, 0] rfl)
  have J0 : ∀ (H : Heap) (locs : List Loc) (ls : Array Slot), th_H D cT T (kd q) H → va_S (th_A T [45]) s.heap H locs → lv_has ls 10 [(0, .ref a0), (1, .int y1), (2, .int y2)] → W p l e (rmk 2 49) s m [.ref a0, .int y1, .int y2].toArray below meth c H locs 0 0 (MQ below (th_Q D cT T (kd q) (th_R T (some (.inl (-2147483648, 2147483647)))) [45]) [.ref a0, .int y1, .int y2].toArray s 0 0 (th_A T [45])) (F0 m 0 ls []) := by
    intro H locs ls hH hS hl
    refine lv_aload_n hx hb dX9_countFitting_0 rfl (lv_at hl 0 rfl) ?_
    refine th_get S hK hH inG9 t0 kd_8 rfl 5 (by decide) gm_480 rfl rfl dX9_countFitting_1 (fun v44 hv44 fv44 => ?_)
    obtain ⟨rf45, rfl, trf45⟩ := th_V.ref hv44
    refine lv_iconst (v := 0) hx hb dX9_countFitting_4 (by decide) ?_
    refine th_callSv (n := 2) (As := [.ref rf45, .int 0]) S hK hH hS (th_A.sub (by decide)) (m_J7_fill_53178_v5 l D cT T q hq rf45 trf45 (0) (iv_top _)) gm_699 gm_1168 gm_698 gm_131 (by decide +kernel) ⟨rfl, rfl, Nat.le_of_ble_eq_true rfl, Nat.le_of_ble_eq_true rfl⟩ rfl hl.1 rfl (Nat.le_of_ble_eq_true rfl) dX9_countFitting_5 ⟨Nat.zero_le _, Nat.zero_le _⟩ (fun H locs hH hS hF1 => ?_)
    have f46 := fv44.kept (hF1 _ fv44.lt (th_off t0 (by decide)))
    refine lv_iload_n hx hb dX9_countFitting_8 rfl (lv_at hl 1 rfl) ?_
    refine lv_if_le (tgt := 17) hx hb dX9_countFitting_9 (by decide) (fun c47 => ?_) (fun c47 => ?_)
    · skip
      have ir48 : IV y1 0 0 := iv_vL j1 (iv_c (by decide) : IV 0 0 0) (iv_le c47) (by decide)
      refine lv_iconst (v := 1) hx hb dX9_countFitting_17 (by decide) ?_
      exact J18_s0_1 H locs ls ir48 hH hS (lv_sub hl [0, 1, 2] rfl)
    · skip
      have ir49 : IV y1 1 3 := iv_uR (iv_c (by decide) : IV 0 0 0) j1 (iv_nle c47) (by decide)
      refine lv_bipush (v := 6) hx hb dX9_countFitting_12 (by decide) ?_
      refine lv_goto (tgt := 18) hx hb dX9_countFitting_14 (by decide) ?_
      exact J18_s0_6 H locs ls ir49 hH hS (lv_sub hl [0, 1, 2] rfl)
  exact J0 s.heap [] ls hH va_S.rf hl

set_option maxRecDepth 100000 in
theorem m_X9_sureLiking (l : Launch) (D : va_G) (cT : Nat → ClassId) (T : Nat → Option Nat) (q : Nat → Int) (hq : qok q) (a0 : Nat) (t0 : T a0 = some 8) (y1 : Int32) (j1 : IV y1 0 3) (y2 : Int32) (j2 : IV y2 0 2) (y3 : Int32) (j3 : IV y3 (-2147483648) 2147483647) : th_Met l D cT T (kd q) yX9_sureLiking cX9_sureLiking 6 (some .int) (rmk 3 78) [.ref a0, .int y1, .int y2, .int y3] (th_R T (some (.inl (-2, 5)))) [45] := by
  refine th_start (by decide) (Nat.le_of_ble_eq_true rfl) ?_
  intro p e s m below meth c ls S hK hH hr hlocks hnm hl
  have hx := S.1
  have hb := S.2.1
  have hl : lv_has ls 6 [(0, .ref a0), (1, .int y1), (2, .int y2), (3, .int y3)] := hl
  have J18 : ∀ (n : Nat) (H : Heap) (locs : List Loc) (ls : Array Slot) (v18_4 : Int32) (v18_5 : Int32), IV v18_4 (-2147483648) 2147483647 → IV v18_5 0 6 → ¬ v18_4 = 0 → th_H D cT T (kd q) H → va_S (th_A T [45]) s.heap H locs → lv_has ls 6 [(0, .ref a0), (2, .int y2), (4, .int v18_4), (5, .int v18_5)] → (6 + 1 - v18_5.toInt).toNat < n → W p l e (rmk 3 78) s m [.ref a0, .int y1, .int y2, .int y3].toArray below meth c H locs 0 0 (MQ below (th_Q D cT T (kd q) (th_R T (some (.inl (-2, 5)))) [45]) [.ref a0, .int y1, .int y2, .int y3].toArray s 0 0 (th_A T [45])) (F0 m 18 ls []) := by
    intro n
    induction n with
    | zero => intro H locs ls v18_4 v18_5 iv18_4 iv18_5 d18_4_0 hH hS hl hn; exact absurd hn (Nat.not_lt_zero _)
    | succ n ih18 =>
      intro H locs ls v18_4 v18_5 iv18_4 iv18_5 d18_4_0 hH hS hl hn18
      refine lv_iload hx hb dX9_sureLiking_18 (lv_at hl 3 rfl) ?_
      refine lv_bipush (v := 6) hx hb dX9_sureLiking_20 (by decide) ?_
      refine lv_icmp_ge (tgt := 51) hx hb dX9_sureLiking_22 (by decide) (fun c1 => ?_) (fun c1 => ?_)
      · skip
        have ir2 : IV v18_5 6 6 := iv_vR (iv_c (by decide) : IV 6 6 6) iv18_5 (iv_le c1) (by decide)
        refine lv_bipush (v := (-2)) hx hb dX9_sureLiking_51 (by decide) ?_
        exact th_iret S hK hH hS hr hlocks (th_R.i (iv_w (iv_c (by decide) : IV (-2) (-2) (-2)) (by decide))) dX9_sureLiking_53
      · skip
        have ir3 : IV v18_5 0 5 := iv_uL iv18_5 (iv_c (by decide) : IV 6 6 6) (iv_nle c1) (by decide)
        refine lv_aload_n hx hb dX9_sureLiking_25 rfl (lv_at hl 0 rfl) ?_
        refine th_get S hK hH inG9 t0 kd_8 rfl 5 (by decide) gm_480 rfl rfl dX9_sureLiking_26 (fun v4 hv4 fv4 => ?_)
        obtain ⟨rf5, rfl, trf5⟩ := th_V.ref hv4
        refine lv_iload_n hx hb dX9_sureLiking_29 rfl (lv_at hl 1 rfl) ?_
        refine lv_bipush (v := 6) hx hb dX9_sureLiking_30 (by decide) ?_
        refine lv_imul hx hb dX9_sureLiking_32 ?_
        refine lv_topi (fun x6 ex6 => ?_)
        have ix6 : IV x6 0 12 := by rw [ex6]; exact iv_mul j2 (iv_c (by decide) : IV 6 6 6) (by decide) (by decide)
        refine lv_iload hx hb dX9_sureLiking_33 (lv_at hl 3 rfl) ?_
        refine lv_iadd hx hb dX9_sureLiking_35 ?_
        refine lv_topi (fun x7 ex7 => ?_)
        have ix7 : IV x7 0 17 := by rw [ex7]; exact iv_add ix6 ir3 (by decide)
        refine th_iald S hK hH trf5 kd_45 (th_in (hi := 17) ix7 (by decide)) dX9_sureLiking_36 (fun v8 hv8 => ?_)
        obtain ⟨x9, rfl, ix9⟩ := th_V.int hv8
        refine lv_iload hx hb dX9_sureLiking_37 (lv_at hl 2 rfl) ?_
        refine lv_icmp_ne (tgt := 45) hx hb dX9_sureLiking_39 (by decide) (fun c10 => ?_) (fun c10 => ?_)
        · skip
          refine th_iinc S dX9_sureLiking_45 hl (k := 3) rfl (by decide) ir3 (by decide) (fun x11 ls ex11 ix11 hl => ?_)
          have hl : lv_has ls 6 [(5, .int x11), (0, .ref a0), (2, .int y2), (4, .int v18_4)] := hl
          have ix11 : IV x11 1 6 := ix11
          refine lv_goto (tgt := 18) hx hb dX9_sureLiking_48 (by decide) ?_
          exact ih18 H locs ls v18_4 x11 iv18_4 (iv_w ix11 (by decide)) d18_4_0 hH hS (lv_sub hl [1, 2, 3, 0] rfl) (th_up iv18_5 ex11 (by decide) hn18)
        · skip
          refine lv_iload hx hb dX9_sureLiking_42 (lv_at hl 3 rfl) ?_
          exact th_iret S hK hH hS hr hlocks (th_R.i (iv_w ir3 (by decide))) dX9_sureLiking_44
  have J0 : ∀ (H : Heap) (locs : List Loc) (ls : Array Slot), th_H D cT T (kd q) H → va_S (th_A T [45]) s.heap H locs → lv_has ls 6 [(0, .ref a0), (1, .int y1), (2, .int y2), (3, .int y3)] → W p l e (rmk 3 78) s m [.ref a0, .int y1, .int y2, .int y3].toArray below meth c H locs 0 0 (MQ below (th_Q D cT T (kd q) (th_R T (some (.inl (-2, 5)))) [45]) [.ref a0, .int y1, .int y2, .int y3].toArray s 0 0 (th_A T [45])) (F0 m 0 ls []) := by
    intro H locs ls hH hS hl
    refine lv_aload_n hx hb dX9_sureLiking_0 rfl (lv_at hl 0 rfl) ?_
    refine lv_iload_n hx hb dX9_sureLiking_1 rfl (lv_at hl 1 rfl) ?_
    refine lv_iload_n hx hb dX9_sureLiking_2 rfl (lv_at hl 3 rfl) ?_
    refine th_callVi (n := 2) (As := [.int y1, .int y3]) S hK hH hS (th_A.sub (by decide)) (m_X9_countFitting l D cT T q hq a0 t0 (y1) j1 (y3) j3) gm_1167 gm_1185 gm_1165 gm_1166 gm_123 (by decide +kernel) ⟨rfl, rfl, Nat.le_of_ble_eq_true rfl, Nat.le_of_ble_eq_true rfl⟩ t0 kd_8 rfl rfl hl.1 rfl (Nat.le_of_ble_eq_true rfl) dX9_sureLiking_3 ⟨Nat.zero_le _, Nat.zero_le _⟩ (fun x12 H locs ix12 hH hS hF1 => ?_)
    refine lv_istore (lv' := [(4, .int x12), (0, .ref a0), (1, .int y1), (2, .int y2), (3, .int y3)]) hx hb dX9_sureLiking_6 hl (by decide) rfl (fun ls hl => ?_)
    refine lv_iload hx hb dX9_sureLiking_8 (lv_at hl 0 rfl) ?_
    refine lv_if_ne (tgt := 15) hx hb dX9_sureLiking_10 (by decide) (fun c13 => ?_) (fun c13 => ?_)
    · skip
      refine lv_iconst (v := 0) hx hb dX9_sureLiking_15 (by decide) ?_
      refine lv_istore (lv' := [(5, .int 0), (4, .int x12), (0, .ref a0), (1, .int y1), (2, .int y2), (3, .int y3)]) hx hb dX9_sureLiking_16 hl (by decide) rfl (fun ls hl => ?_)
      exact J18 ((6 + 1 - Int32.toInt 0).toNat + 1) H locs ls x12 0 ix12 (iv_w (iv_c (by decide) : IV 0 0 0) (by decide)) c13 hH hS (lv_sub hl [2, 4, 1, 0] rfl) (Nat.lt_succ_self _)
    · skip
      have ir14 : IV x12 0 0 := iv_eL c13 (iv_c (by decide) : IV 0 0 0)
      refine lv_iconst (v := (-1)) hx hb dX9_sureLiking_13 (by decide) ?_
      exact th_iret S hK hH hS hr hlocks (th_R.i (iv_w (iv_c (by decide) : IV (-1) (-1) (-1)) (by decide))) dX9_sureLiking_14
  exact J0 s.heap [] ls hH va_S.rf hl

set_option maxRecDepth 100000 in
theorem m_X9_fullBy (l : Launch) (D : va_G) (cT : Nat → ClassId) (T : Nat → Option Nat) (q : Nat → Int) (hq : qok q) (a0 : Nat) (t0 : T a0 = some 8) (y1 : Int32) (j1 : IV y1 0 2) (y2 : Int32) (j2 : IV y2 1 9) (y3 : Int32) (j3 : IV y3 (-2147483648) 2147483647) : th_Met l D cT T (kd q) yX9_fullBy cX9_fullBy 6 (some .int) (rmk 0 0) [.ref a0, .int y1, .int y2, .int y3] (th_R T (some (.inl (-2147483648, 2147483647)))) [] := by
  refine th_start (by decide) (Nat.le_of_ble_eq_true rfl) ?_
  intro p e s m below meth c ls S hK hH hr hlocks hnm hl
  have hx := S.1
  have hb := S.2.1
  have hl : lv_has ls 6 [(0, .ref a0), (1, .int y1), (2, .int y2), (3, .int y3)] := hl
  have J6 : ∀ (n : Nat) (H : Heap) (locs : List Loc) (ls : Array Slot) (v6_4 : Int32) (v6_5 : Int32), IV v6_4 (-2147483648) 2147483647 → IV v6_5 0 6 → th_H D cT T (kd q) H → va_S (th_A T []) s.heap H locs → lv_has ls 6 [(0, .ref a0), (1, .int y1), (2, .int y2), (3, .int y3), (4, .int v6_4), (5, .int v6_5)] → (6 + 1 - v6_5.toInt).toNat < n → W p l e (rmk 0 0) s m [.ref a0, .int y1, .int y2, .int y3].toArray below meth c H locs 0 0 (MQ below (th_Q D cT T (kd q) (th_R T (some (.inl (-2147483648, 2147483647)))) []) [.ref a0, .int y1, .int y2, .int y3].toArray s 0 0 (th_A T [])) (F0 m 6 ls []) := by
    intro n
    induction n with
    | zero => intro H locs ls v6_4 v6_5 iv6_4 iv6_5 hH hS hl hn; exact absurd hn (Nat.not_lt_zero _)
    | succ n ih6 =>
      intro H locs ls v6_4 v6_5 iv6_4 iv6_5 hH hS hl hn6
      have J38 : ∀ (H : Heap) (locs : List Loc) (ls : Array Slot) (v38_4 : Int32), IV v38_4 (-2147483648) 2147483647 → IV v6_5 0 5 → th_H D cT T (kd q) H → va_S (th_A T []) s.heap H locs → lv_has ls 6 [(0, .ref a0), (1, .int y1), (2, .int y2), (3, .int y3), (4, .int v38_4), (5, .int v6_5)] → W p l e (rmk 0 0) s m [.ref a0, .int y1, .int y2, .int y3].toArray below meth c H locs 0 0 (MQ below (th_Q D cT T (kd q) (th_R T (some (.inl (-2147483648, 2147483647)))) []) [.ref a0, .int y1, .int y2, .int y3].toArray s 0 0 (th_A T [])) (F0 m 38 ls []) := by
        intro H locs ls v38_4 iv38_4 f38_v6_5 hH hS hl
        refine th_iinc S dX9_fullBy_38 hl (k := 5) rfl (by decide) f38_v6_5 (by decide) (fun x1 ls ex1 ix1 hl => ?_)
        have hl : lv_has ls 6 [(5, .int x1), (0, .ref a0), (1, .int y1), (2, .int y2), (3, .int y3), (4, .int v38_4)] := hl
        have ix1 : IV x1 1 6 := ix1
        refine lv_goto (tgt := 6) hx hb dX9_fullBy_41 (by decide) ?_
        exact ih6 H locs ls v38_4 x1 iv38_4 (iv_w ix1 (by decide)) hH hS (lv_sub hl [1, 2, 3, 4, 5, 0] rfl) (th_up iv6_5 ex1 (by decide) hn6)
      refine lv_iload hx hb dX9_fullBy_6 (lv_at hl 5 rfl) ?_
      refine lv_bipush (v := 6) hx hb dX9_fullBy_8 (by decide) ?_
      refine lv_icmp_ge (tgt := 44) hx hb dX9_fullBy_10 (by decide) (fun c2 => ?_) (fun c2 => ?_)
      · skip
        have ir3 : IV v6_5 6 6 := iv_vR (iv_c (by decide) : IV 6 6 6) iv6_5 (iv_le c2) (by decide)
        refine lv_iload hx hb dX9_fullBy_44 (lv_at hl 4 rfl) ?_
        exact th_iret S hK hH hS hr hlocks (th_R.i iv6_4) dX9_fullBy_46
      · skip
        have ir4 : IV v6_5 0 5 := iv_uL iv6_5 (iv_c (by decide) : IV 6 6 6) (iv_nle c2) (by decide)
        refine lv_iload hx hb dX9_fullBy_13 (lv_at hl 5 rfl) ?_
        refine lv_iload_n hx hb dX9_fullBy_15 rfl (lv_at hl 2 rfl) ?_
        refine lv_imul hx hb dX9_fullBy_16 ?_
        refine lv_topi (fun x5 ex5 => ?_)
        have ix5 : IV x5 0 45 := by rw [ex5]; exact iv_mul ir4 j2 (by decide) (by decide)
        refine lv_iload_n hx hb dX9_fullBy_17 rfl (lv_at hl 3 rfl) ?_
        refine lv_icmp_lt (tgt := 38) hx hb dX9_fullBy_18 (by decide) (fun c6 => ?_) (fun c6 => ?_)
        · skip
          have ir7 : IV y3 1 2147483647 := iv_uR ix5 j3 (iv_lt c6) (by decide)
          exact J38 H locs ls v6_4 iv6_4 ir4 hH hS (lv_sub hl [0, 1, 2, 3, 4, 5] rfl)
        · skip
          have ir8 : IV y3 (-2147483648) 45 := iv_vL j3 ix5 (iv_nlt c6) (by decide)
          refine lv_iload hx hb dX9_fullBy_21 (lv_at hl 4 rfl) ?_
          refine lv_aload_n hx hb dX9_fullBy_23 rfl (lv_at hl 0 rfl) ?_
          refine th_get S hK hH inG9 t0 kd_8 rfl 5 (by decide) gm_480 rfl rfl dX9_fullBy_24 (fun v9 hv9 fv9 => ?_)
          obtain ⟨rf10, rfl, trf10⟩ := th_V.ref hv9
          refine lv_iload_n hx hb dX9_fullBy_27 rfl (lv_at hl 1 rfl) ?_
          refine lv_bipush (v := 6) hx hb dX9_fullBy_28 (by decide) ?_
          refine lv_imul hx hb dX9_fullBy_30 ?_
          refine lv_topi (fun x11 ex11 => ?_)
          have ix11 : IV x11 0 12 := by rw [ex11]; exact iv_mul j1 (iv_c (by decide) : IV 6 6 6) (by decide) (by decide)
          refine lv_iload hx hb dX9_fullBy_31 (lv_at hl 5 rfl) ?_
          refine lv_iadd hx hb dX9_fullBy_33 ?_
          refine lv_topi (fun x12 ex12 => ?_)
          have ix12 : IV x12 0 17 := by rw [ex12]; exact iv_add ix11 ir4 (by decide)
          refine th_iald S hK hH trf10 kd_45 (th_in (hi := 17) ix12 (by decide)) dX9_fullBy_34 (fun v13 hv13 => ?_)
          obtain ⟨x14, rfl, ix14⟩ := th_V.int hv13
          refine lv_iadd hx hb dX9_fullBy_35 ?_
          refine lv_topi (fun x15 ex15 => ?_)
          have ix15 := iv_top x15
          refine lv_istore (lv' := [(4, .int x15), (0, .ref a0), (1, .int y1), (2, .int y2), (3, .int y3), (5, .int v6_5)]) hx hb dX9_fullBy_36 hl (by decide) rfl (fun ls hl => ?_)
          exact J38 H locs ls x15 ix15 ir4 hH hS (lv_sub hl [1, 2, 3, 4, 0, 5] rfl)
  have J0 : ∀ (H : Heap) (locs : List Loc) (ls : Array Slot), th_H D cT T (kd q) H → va_S (th_A T []) s.heap H locs → lv_has ls 6 [(0, .ref a0), (1, .int y1), (2, .int y2), (3, .int y3)] → W p l e (rmk 0 0) s m [.ref a0, .int y1, .int y2, .int y3].toArray below meth c H locs 0 0 (MQ below (th_Q D cT T (kd q) (th_R T (some (.inl (-2147483648, 2147483647)))) []) [.ref a0, .int y1, .int y2, .int y3].toArray s 0 0 (th_A T [])) (F0 m 0 ls []) := by
    intro H locs ls hH hS hl
    refine lv_iconst (v := 0) hx hb dX9_fullBy_0 (by decide) ?_
    refine lv_istore (lv' := [(4, .int 0), (0, .ref a0), (1, .int y1), (2, .int y2), (3, .int y3)]) hx hb dX9_fullBy_1 hl (by decide) rfl (fun ls hl => ?_)
    refine lv_iconst (v := 0) hx hb dX9_fullBy_3 (by decide) ?_
    refine lv_istore (lv' := [(5, .int 0), (4, .int 0), (0, .ref a0), (1, .int y1), (2, .int y2), (3, .int y3)]) hx hb dX9_fullBy_4 hl (by decide) rfl (fun ls hl => ?_)
    exact J6 ((6 + 1 - Int32.toInt 0).toNat + 1) H locs ls 0 0 (iv_top _) (iv_w (iv_c (by decide) : IV 0 0 0) (by decide)) hH hS (lv_sub hl [2, 3, 4, 5, 1, 0] rfl) (Nat.lt_succ_self _)
  exact J0 s.heap [] ls hH va_S.rf hl

set_option maxRecDepth 100000 in
theorem m_X9_nextTrial (l : Launch) (D : va_G) (cT : Nat → ClassId) (T : Nat → Option Nat) (q : Nat → Int) (hq : qok q) (a0 : Nat) (t0 : T a0 = some 8) (y1 : Int32) (j1 : IV y1 0 3) (y2 : Int32) (j2 : IV y2 (-2147483648) 2147483647) (y3 : Int32) (j3 : IV y3 (-2147483648) 2147483647) (y4 : Int32) (j4 : IV y4 (-2147483648) 2147483647) : th_Met l D cT T (kd q) yX9_nextTrial cX9_nextTrial 12 (some .int) (rmk 3 78) [.ref a0, .int y1, .int y2, .int y3, .int y4] (th_R T (some (.inl (-2147483648, 2147483647)))) [45] := by
  refine th_start (by decide) (Nat.le_of_ble_eq_true rfl) ?_
  intro p e s m below meth c ls S hK hH hr hlocks hnm hl
  have hx := S.1
  have hb := S.2.1
  have hl : lv_has ls 12 [(0, .ref a0), (1, .int y1), (2, .int y2), (3, .int y3), (4, .int y4)] := hl
  have J111 : ∀ (H : Heap) (locs : List Loc) (ls : Array Slot) (w111_0 : Int32), IV w111_0 (-2147483648) 2147483647 → th_H D cT T (kd q) H → va_S (th_A T [45]) s.heap H locs → lv_has ls 12 [] → W p l e (rmk 3 78) s m [.ref a0, .int y1, .int y2, .int y3, .int y4].toArray below meth c H locs 0 0 (MQ below (th_Q D cT T (kd q) (th_R T (some (.inl (-2147483648, 2147483647)))) [45]) [.ref a0, .int y1, .int y2, .int y3, .int y4].toArray s 0 0 (th_A T [45])) (F0 m 111 ls [.int w111_0]) := by
    intro H locs ls w111_0 iw111_0 hH hS hl
    exact th_iret S hK hH hS hr hlocks (th_R.i iw111_0) dX9_nextTrial_111
  have J28 : ∀ (n : Nat) (H : Heap) (locs : List Loc) (ls : Array Slot) (v28_5 : Int32) (v28_6 : Int32) (v28_7 : Int32) (v28_8 : Int32), IV v28_5 (-2147483648) 2147483647 → IV v28_6 (-1) 29 → IV v28_7 (-2147483648) 2147483647 → IV v28_8 0 3 → ¬ v28_5 = 0 → th_H D cT T (kd q) H → va_S (th_A T [45]) s.heap H locs → lv_has ls 12 [(0, .ref a0), (1, .int y1), (2, .int y2), (3, .int y3), (5, .int v28_5), (6, .int v28_6), (7, .int v28_7), (8, .int v28_8)] → (3 + 1 - v28_8.toInt).toNat < n → W p l e (rmk 3 78) s m [.ref a0, .int y1, .int y2, .int y3, .int y4].toArray below meth c H locs 0 0 (MQ below (th_Q D cT T (kd q) (th_R T (some (.inl (-2147483648, 2147483647)))) [45]) [.ref a0, .int y1, .int y2, .int y3, .int y4].toArray s 0 0 (th_A T [45])) (F0 m 28 ls []) := by
    intro n
    induction n with
    | zero => intro H locs ls v28_5 v28_6 v28_7 v28_8 iv28_5 iv28_6 iv28_7 iv28_8 d28_5_0 hH hS hl hn; exact absurd hn (Nat.not_lt_zero _)
    | succ n ih28 =>
      intro H locs ls v28_5 v28_6 v28_7 v28_8 iv28_5 iv28_6 iv28_7 iv28_8 d28_5_0 hH hS hl hn28
      have J37 : ∀ (n : Nat) (H : Heap) (locs : List Loc) (ls : Array Slot) (v37_6 : Int32) (v37_7 : Int32) (v37_9 : Int32), IV v37_6 (-1) 29 → IV v37_7 (-2147483648) 2147483647 → IV v37_9 1 10 → ¬ v28_5 = 0 → IV v28_8 0 2 → IV y1 1 3 → th_H D cT T (kd q) H → va_S (th_A T [45]) s.heap H locs → lv_has ls 12 [(0, .ref a0), (1, .int y1), (2, .int y2), (3, .int y3), (5, .int v28_5), (6, .int v37_6), (7, .int v37_7), (8, .int v28_8), (9, .int v37_9)] → (10 + 1 - v37_9.toInt).toNat < n → W p l e (rmk 3 78) s m [.ref a0, .int y1, .int y2, .int y3, .int y4].toArray below meth c H locs 0 0 (MQ below (th_Q D cT T (kd q) (th_R T (some (.inl (-2147483648, 2147483647)))) [45]) [.ref a0, .int y1, .int y2, .int y3, .int y4].toArray s 0 0 (th_A T [45])) (F0 m 37 ls []) := by
        intro n
        induction n with
        | zero => intro H locs ls v37_6 v37_7 v37_9 iv37_6 iv37_7 iv37_9 d37_5_0 f37_v28_8 f37_y1 hH hS hl hn; exact absurd hn (Nat.not_lt_zero _)
        | succ n ih37 =>
          intro H locs ls v37_6 v37_7 v37_9 iv37_6 iv37_7 iv37_9 d37_5_0 f37_v28_8 f37_y1 hH hS hl hn37
          have J88 : ∀ (H : Heap) (locs : List Loc) (ls : Array Slot) (v88_6 : Int32) (v88_7 : Int32), IV v88_6 (-1) 29 → IV v88_7 (-2147483648) 2147483647 → ¬ v28_5 = 0 → IV v28_8 0 2 → IV v37_9 1 9 → IV y1 1 3 → th_H D cT T (kd q) H → va_S (th_A T [45]) s.heap H locs → lv_has ls 12 [(0, .ref a0), (1, .int y1), (2, .int y2), (3, .int y3), (5, .int v28_5), (6, .int v88_6), (7, .int v88_7), (8, .int v28_8), (9, .int v37_9)] → W p l e (rmk 3 78) s m [.ref a0, .int y1, .int y2, .int y3, .int y4].toArray below meth c H locs 0 0 (MQ below (th_Q D cT T (kd q) (th_R T (some (.inl (-2147483648, 2147483647)))) [45]) [.ref a0, .int y1, .int y2, .int y3, .int y4].toArray s 0 0 (th_A T [45])) (F0 m 88 ls []) := by
            intro H locs ls v88_6 v88_7 iv88_6 iv88_7 d88_5_0 f88_v28_8 f88_v37_9 f88_y1 hH hS hl
            refine th_iinc S dX9_nextTrial_88 hl (k := 8) rfl (by decide) f88_v37_9 (by decide) (fun x1 ls ex1 ix1 hl => ?_)
            have hl : lv_has ls 12 [(9, .int x1), (0, .ref a0), (1, .int y1), (2, .int y2), (3, .int y3), (5, .int v28_5), (6, .int v88_6), (7, .int v88_7), (8, .int v28_8)] := hl
            have ix1 : IV x1 2 10 := ix1
            refine lv_goto (tgt := 37) hx hb dX9_nextTrial_91 (by decide) ?_
            exact ih37 H locs ls v88_6 v88_7 x1 iv88_6 iv88_7 (iv_w ix1 (by decide)) d88_5_0 f88_v28_8 f88_y1 hH hS (lv_sub hl [1, 2, 3, 4, 5, 6, 7, 8, 0] rfl) (th_up iv37_9 ex1 (by decide) hn37)
          refine lv_iload hx hb dX9_nextTrial_37 (lv_at hl 8 rfl) ?_
          refine lv_bipush (v := 9) hx hb dX9_nextTrial_39 (by decide) ?_
          refine lv_icmp_gt (tgt := 94) hx hb dX9_nextTrial_41 (by decide) (fun c2 => ?_) (fun c2 => ?_)
          · skip
            have ir3 : IV v37_9 10 10 := iv_uR (iv_c (by decide) : IV 9 9 9) iv37_9 (iv_lt c2) (by decide)
            refine th_iinc S dX9_nextTrial_94 hl (k := 7) rfl (by decide) f37_v28_8 (by decide) (fun x4 ls ex4 ix4 hl => ?_)
            have hl : lv_has ls 12 [(8, .int x4), (0, .ref a0), (1, .int y1), (2, .int y2), (3, .int y3), (5, .int v28_5), (6, .int v37_6), (7, .int v37_7), (9, .int v37_9)] := hl
            have ix4 : IV x4 1 3 := ix4
            refine lv_goto (tgt := 28) hx hb dX9_nextTrial_97 (by decide) ?_
            exact ih28 H locs ls v28_5 v37_6 v37_7 x4 iv28_5 iv37_6 iv37_7 (iv_w ix4 (by decide)) d37_5_0 hH hS (lv_sub hl [1, 2, 3, 4, 5, 6, 7, 0] rfl) (th_up iv28_8 ex4 (by decide) hn28)
          · skip
            have ir5 : IV v37_9 1 9 := iv_vL iv37_9 (iv_c (by decide) : IV 9 9 9) (iv_nlt c2) (by decide)
            refine lv_aload_n hx hb dX9_nextTrial_44 rfl (lv_at hl 0 rfl) ?_
            refine lv_iload hx hb dX9_nextTrial_45 (lv_at hl 7 rfl) ?_
            refine lv_iload hx hb dX9_nextTrial_47 (lv_at hl 8 rfl) ?_
            refine lv_iload_n hx hb dX9_nextTrial_49 rfl (lv_at hl 2 rfl) ?_
            refine th_callVi (n := 3) (As := [.int v28_8, .int v37_9, .int y2]) S hK hH hS (th_A.sub (by decide)) (m_X9_fullBy l D cT T q hq a0 t0 (v28_8) f37_v28_8 (v37_9) ir5 (y2) j2) gm_1197 gm_1194 gm_1196 gm_43 gm_123 (by decide +kernel) ⟨rfl, rfl, Nat.le_of_ble_eq_true rfl, Nat.le_of_ble_eq_true rfl⟩ t0 kd_8 rfl rfl hl.1 rfl (Nat.le_of_ble_eq_true rfl) dX9_nextTrial_50 ⟨Nat.zero_le _, Nat.zero_le _⟩ (fun x6 H locs ix6 hH hS hF1 => ?_)
            refine lv_istore (lv' := [(10, .int x6), (0, .ref a0), (1, .int y1), (2, .int y2), (3, .int y3), (5, .int v28_5), (6, .int v37_6), (7, .int v37_7), (8, .int v28_8), (9, .int v37_9)]) hx hb dX9_nextTrial_53 hl (by decide) rfl (fun ls hl => ?_)
            refine lv_iload hx hb dX9_nextTrial_55 (lv_at hl 0 rfl) ?_
            refine lv_iload hx hb dX9_nextTrial_57 (lv_at hl 5 rfl) ?_
            refine lv_iload hx hb dX9_nextTrial_59 (lv_at hl 0 rfl) ?_
            refine lv_isub hx hb dX9_nextTrial_61 ?_
            refine lv_topi (fun x7 ex7 => ?_)
            have ix7 := iv_top x7
            refine va_mmax hx hb (S.2.2.1.trans hl.1.symm) S.2.2.2.1 (S.2.2.2.2 _ gm_1198) (S.2.2.2.2 _ gm_625) (S.2.2.2.2 _ gm_129) (S.2.2.2.2 _ gm_626) (Nat.le_of_ble_eq_true rfl) (Nat.le_of_ble_eq_true rfl) (Nat.zero_le _) (Nat.zero_le _) dX9_nextTrial_62 ?_
            refine lv_topi (fun x8 ex8 => ?_)
            have ix8 : IV x8 (-2147483648) 2147483647 := by rw [ex8]; exact iv_max ix6 ix7 (by decide)
            refine lv_istore (lv' := [(11, .int x8), (10, .int x6), (0, .ref a0), (1, .int y1), (2, .int y2), (3, .int y3), (5, .int v28_5), (6, .int v37_6), (7, .int v37_7), (8, .int v28_8), (9, .int v37_9)]) hx hb dX9_nextTrial_65 hl (by decide) rfl (fun ls hl => ?_)
            refine lv_iload hx hb dX9_nextTrial_67 (lv_at hl 0 rfl) ?_
            refine lv_iload hx hb dX9_nextTrial_69 (lv_at hl 8 rfl) ?_
            refine lv_icmp_ge (tgt := 88) hx hb dX9_nextTrial_71 (by decide) (fun c9 => ?_) (fun c9 => ?_)
            · skip
              exact J88 H locs ls v37_6 v37_7 iv37_6 iv37_7 d37_5_0 f37_v28_8 ir5 f37_y1 hH hS (lv_sub hl [2, 3, 4, 5, 6, 7, 8, 9, 10] rfl)
            · skip
              have ir10 : IV x8 (-2147483648) 2147483646 := iv_uL ix8 iv37_7 (iv_nle c9) (by decide)
              have ir11 : IV v37_7 (-2147483647) 2147483647 := iv_uR ix8 iv37_7 (iv_nle c9) (by decide)
              refine lv_iload hx hb dX9_nextTrial_74 (lv_at hl 0 rfl) ?_
              refine lv_istore (lv' := [(7, .int x8), (11, .int x8), (10, .int x6), (0, .ref a0), (1, .int y1), (2, .int y2), (3, .int y3), (5, .int v28_5), (6, .int v37_6), (8, .int v28_8), (9, .int v37_9)]) hx hb dX9_nextTrial_76 hl (by decide) rfl (fun ls hl => ?_)
              refine lv_bipush (v := 10) hx hb dX9_nextTrial_78 (by decide) ?_
              refine lv_iload hx hb dX9_nextTrial_80 (lv_at hl 9 rfl) ?_
              refine lv_imul hx hb dX9_nextTrial_82 ?_
              refine lv_topi (fun x12 ex12 => ?_)
              have ix12 : IV x12 0 20 := by rw [ex12]; exact iv_mul (iv_c (by decide) : IV 10 10 10) f37_v28_8 (by decide) (by decide)
              refine lv_iload hx hb dX9_nextTrial_83 (lv_at hl 10 rfl) ?_
              refine lv_iadd hx hb dX9_nextTrial_85 ?_
              refine lv_topi (fun x13 ex13 => ?_)
              have ix13 : IV x13 1 29 := by rw [ex13]; exact iv_add ix12 ir5 (by decide)
              refine lv_istore (lv' := [(6, .int x13), (7, .int x8), (11, .int x8), (10, .int x6), (0, .ref a0), (1, .int y1), (2, .int y2), (3, .int y3), (5, .int v28_5), (8, .int v28_8), (9, .int v37_9)]) hx hb dX9_nextTrial_86 hl (by decide) rfl (fun ls hl => ?_)
              exact J88 H locs ls x13 x8 (iv_w ix13 (by decide)) (iv_top _) d37_5_0 f37_v28_8 ir5 f37_y1 hH hS (lv_sub hl [4, 5, 6, 7, 8, 0, 1, 9, 10] rfl)
      refine lv_iload hx hb dX9_nextTrial_28 (lv_at hl 7 rfl) ?_
      refine lv_iload_n hx hb dX9_nextTrial_30 rfl (lv_at hl 1 rfl) ?_
      refine lv_icmp_ge (tgt := 100) hx hb dX9_nextTrial_31 (by decide) (fun c14 => ?_) (fun c14 => ?_)
      · skip
        refine lv_iload_n hx hb dX9_nextTrial_100 rfl (lv_at hl 3 rfl) ?_
        refine lv_if_ne (tgt := 109) hx hb dX9_nextTrial_101 (by decide) (fun c15 => ?_) (fun c15 => ?_)
        · skip
          refine lv_iload hx hb dX9_nextTrial_109 (lv_at hl 6 rfl) ?_
          exact J111 H locs ls v28_7 iv28_7 hH hS (lv_sub hl [] rfl)
        · skip
          have ir16 : IV y3 0 0 := iv_eL c15 (iv_c (by decide) : IV 0 0 0)
          refine lv_iload hx hb dX9_nextTrial_104 (lv_at hl 5 rfl) ?_
          refine lv_goto (tgt := 111) hx hb dX9_nextTrial_106 (by decide) ?_
          exact J111 H locs ls v28_6 (iv_top _) hH hS (lv_sub hl [] rfl)
      · skip
        have ir17 : IV v28_8 0 2 := iv_uL iv28_8 j1 (iv_nle c14) (by decide)
        have ir18 : IV y1 1 3 := iv_uR iv28_8 j1 (iv_nle c14) (by decide)
        refine lv_iconst (v := 1) hx hb dX9_nextTrial_34 (by decide) ?_
        refine lv_istore (lv' := [(9, .int 1), (0, .ref a0), (1, .int y1), (2, .int y2), (3, .int y3), (5, .int v28_5), (6, .int v28_6), (7, .int v28_7), (8, .int v28_8)]) hx hb dX9_nextTrial_35 hl (by decide) rfl (fun ls hl => ?_)
        exact J37 ((10 + 1 - Int32.toInt 1).toNat + 1) H locs ls v28_6 v28_7 1 iv28_6 iv28_7 (iv_w (iv_c (by decide) : IV 1 1 1) (by decide)) d28_5_0 ir17 ir18 hH hS (lv_sub hl [1, 2, 3, 4, 5, 6, 7, 8, 0] rfl) (Nat.lt_succ_self _)
  have J0 : ∀ (H : Heap) (locs : List Loc) (ls : Array Slot), th_H D cT T (kd q) H → va_S (th_A T [45]) s.heap H locs → lv_has ls 12 [(0, .ref a0), (1, .int y1), (2, .int y2), (3, .int y3), (4, .int y4)] → W p l e (rmk 3 78) s m [.ref a0, .int y1, .int y2, .int y3, .int y4].toArray below meth c H locs 0 0 (MQ below (th_Q D cT T (kd q) (th_R T (some (.inl (-2147483648, 2147483647)))) [45]) [.ref a0, .int y1, .int y2, .int y3, .int y4].toArray s 0 0 (th_A T [45])) (F0 m 0 ls []) := by
    intro H locs ls hH hS hl
    refine lv_aload_n hx hb dX9_nextTrial_0 rfl (lv_at hl 0 rfl) ?_
    refine lv_iload_n hx hb dX9_nextTrial_1 rfl (lv_at hl 1 rfl) ?_
    refine lv_iload hx hb dX9_nextTrial_2 (lv_at hl 4 rfl) ?_
    refine th_callVi (n := 2) (As := [.int y1, .int y4]) S hK hH hS (th_A.sub (by decide)) (m_X9_countFitting l D cT T q hq a0 t0 (y1) j1 (y4) j4) gm_1167 gm_1185 gm_1165 gm_1166 gm_123 (by decide +kernel) ⟨rfl, rfl, Nat.le_of_ble_eq_true rfl, Nat.le_of_ble_eq_true rfl⟩ t0 kd_8 rfl rfl hl.1 rfl (Nat.le_of_ble_eq_true rfl) dX9_nextTrial_4 ⟨Nat.zero_le _, Nat.zero_le _⟩ (fun x19 H locs ix19 hH hS hF1 => ?_)
    refine lv_istore (lv' := [(5, .int x19), (0, .ref a0), (1, .int y1), (2, .int y2), (3, .int y3), (4, .int y4)]) hx hb dX9_nextTrial_7 hl (by decide) rfl (fun ls hl => ?_)
    refine lv_iload hx hb dX9_nextTrial_9 (lv_at hl 0 rfl) ?_
    refine lv_if_ne (tgt := 16) hx hb dX9_nextTrial_11 (by decide) (fun c20 => ?_) (fun c20 => ?_)
    · skip
      refine lv_iconst (v := (-1)) hx hb dX9_nextTrial_16 (by decide) ?_
      refine lv_istore (lv' := [(6, .int (-1)), (5, .int x19), (0, .ref a0), (1, .int y1), (2, .int y2), (3, .int y3), (4, .int y4)]) hx hb dX9_nextTrial_17 hl (by decide) rfl (fun ls hl => ?_)
      refine lv_iload hx hb dX9_nextTrial_19 (lv_at hl 1 rfl) ?_
      refine lv_iconst (v := 1) hx hb dX9_nextTrial_21 (by decide) ?_
      refine lv_iadd hx hb dX9_nextTrial_22 ?_
      refine lv_topi (fun x21 ex21 => ?_)
      have ix21 := iv_top x21
      refine lv_istore (lv' := [(7, .int x21), (6, .int (-1)), (5, .int x19), (0, .ref a0), (1, .int y1), (2, .int y2), (3, .int y3), (4, .int y4)]) hx hb dX9_nextTrial_23 hl (by decide) rfl (fun ls hl => ?_)
      refine lv_iconst (v := 0) hx hb dX9_nextTrial_25 (by decide) ?_
      refine lv_istore (lv' := [(8, .int 0), (7, .int x21), (6, .int (-1)), (5, .int x19), (0, .ref a0), (1, .int y1), (2, .int y2), (3, .int y3), (4, .int y4)]) hx hb dX9_nextTrial_26 hl (by decide) rfl (fun ls hl => ?_)
      exact J28 ((3 + 1 - Int32.toInt 0).toNat + 1) H locs ls x19 (-1) x21 0 ix19 (iv_w (iv_c (by decide) : IV (-1) (-1) (-1)) (by decide)) ix21 (iv_w (iv_c (by decide) : IV 0 0 0) (by decide)) c20 hH hS (lv_sub hl [4, 5, 6, 7, 3, 2, 1, 0] rfl) (Nat.lt_succ_self _)
    · skip
      have ir22 : IV x19 0 0 := iv_eL c20 (iv_c (by decide) : IV 0 0 0)
      refine lv_iconst (v := (-1)) hx hb dX9_nextTrial_14 (by decide) ?_
      exact th_iret S hK hH hS hr hlocks (th_R.i (iv_top _)) dX9_nextTrial_15
  exact J0 s.heap [] ls hH va_S.rf hl

set_option maxRecDepth 100000 in
theorem m_X10_feed (l : Launch) (D : va_G) (cT : Nat → ClassId) (T : Nat → Option Nat) (q : Nat → Int) (hq : qok q) (a0 : Nat) (t0 : T a0 = some 0) (y1 : Int32) (j1 : IV y1 (-2147483648) 2147483647) (y2 : Int32) (j2 : IV y2 (-2147483648) 2147483647) (y3 : Int32) (j3 : IV y3 (-2147483648) 2147483647) (y4 : Int32) (j4 : IV y4 (-2147483648) 2147483647) (y5 : Int32) (j5 : IV y5 (-2147483648) 2147483647) : th_Met l D cT T (kd q) yX10_feed cX10_feed 6 (some .int) (rmk 1 22) [.ref a0, .int y1, .int y2, .int y3, .int y4, .int y5] (th_R T (some (.inl (-1, 1600)))) [1, 11] := by
  refine th_start (by decide) (Nat.le_of_ble_eq_true rfl) ?_
  intro p e s m below meth c ls S hK hH hr hlocks hnm hl
  have hx := S.1
  have hb := S.2.1
  have hl : lv_has ls 6 [(0, .ref a0), (1, .int y1), (2, .int y2), (3, .int y3), (4, .int y4), (5, .int y5)] := hl
  have J0 : ∀ (H : Heap) (locs : List Loc) (ls : Array Slot), th_H D cT T (kd q) H → va_S (th_A T [1, 11]) s.heap H locs → lv_has ls 6 [(0, .ref a0), (1, .int y1), (2, .int y2), (3, .int y3), (4, .int y4), (5, .int y5)] → W p l e (rmk 1 22) s m [.ref a0, .int y1, .int y2, .int y3, .int y4, .int y5].toArray below meth c H locs 0 0 (MQ below (th_Q D cT T (kd q) (th_R T (some (.inl (-1, 1600)))) [1, 11]) [.ref a0, .int y1, .int y2, .int y3, .int y4, .int y5].toArray s 0 0 (th_A T [1, 11])) (F0 m 0 ls []) := by
    intro H locs ls hH hS hl
    refine lv_aload_n hx hb dX10_feed_0 rfl (lv_at hl 0 rfl) ?_
    refine th_get S hK hH inG10 t0 kd_0 rfl 0 (by decide) gm_505 rfl rfl dX10_feed_1 (fun v1 hv1 fv1 => ?_)
    obtain ⟨rf2, rfl, trf2⟩ := th_V.ref hv1
    refine th_get S hK hH inG8 trf2 kd_1 rfl 4 (by decide) gm_156 rfl rfl dX10_feed_4 (fun v3 hv3 fv3 => ?_)
    obtain ⟨x4, rfl, ix4⟩ := th_V.int hv3
    refine lv_bipush (v := 20) hx hb dX10_feed_7 (by decide) ?_
    refine lv_iadd hx hb dX10_feed_9 ?_
    refine lv_topi (fun x5 ex5 => ?_)
    have ix5 : IV x5 20 1620 := by rw [ex5]; exact iv_add ix4 (iv_c (by decide) : IV 20 20 20) (by decide)
    refine lv_sipush (v := 1600) hx hb dX10_feed_10 (by decide) ?_
    refine lv_icmp_le (tgt := 18) hx hb dX10_feed_13 (by decide) (fun c6 => ?_) (fun c6 => ?_)
    · skip
      have ir7 : IV x5 20 1600 := iv_vL ix5 (iv_c (by decide) : IV 1600 1600 1600) (iv_le c6) (by decide)
      refine lv_aload_n hx hb dX10_feed_18 rfl (lv_at hl 0 rfl) ?_
      refine th_getK S hK fv1 inG10 rfl (by decide) gm_505 rfl dX10_feed_19 ?_
      refine lv_iload_n hx hb dX10_feed_22 rfl (lv_at hl 1 rfl) ?_
      refine th_callVv (n := 1) (As := [.int y1]) S hK hH hS (th_A.sub (by decide)) (m_X8_append l D cT T q hq rf2 trf2 (y1) j1) gm_543 gm_540 gm_541 gm_542 gm_114 (by decide +kernel) ⟨rfl, rfl, Nat.le_of_ble_eq_true rfl, Nat.le_of_ble_eq_true rfl⟩ trf2 kd_1 rfl rfl hl.1 rfl (Nat.le_of_ble_eq_true rfl) dX10_feed_23 ⟨Nat.zero_le _, Nat.zero_le _⟩ (fun H locs hH hS hF1 => ?_)
      have f9 := fv1.kept (hF1 _ fv1.lt (th_off t0 (by decide)))
      refine lv_aload_n hx hb dX10_feed_26 rfl (lv_at hl 0 rfl) ?_
      refine th_getK S hK f9 inG10 rfl (by decide) gm_505 rfl dX10_feed_27 ?_
      refine lv_iload_n hx hb dX10_feed_30 rfl (lv_at hl 2 rfl) ?_
      refine th_callVv (n := 1) (As := [.int y2]) S hK hH hS (th_A.sub (by decide)) (m_X8_append l D cT T q hq rf2 trf2 (y2) j2) gm_543 gm_540 gm_541 gm_542 gm_114 (by decide +kernel) ⟨rfl, rfl, Nat.le_of_ble_eq_true rfl, Nat.le_of_ble_eq_true rfl⟩ trf2 kd_1 rfl rfl hl.1 rfl (Nat.le_of_ble_eq_true rfl) dX10_feed_31 ⟨Nat.zero_le _, Nat.zero_le _⟩ (fun H locs hH hS hF1 => ?_)
      have f11 := f9.kept (hF1 _ f9.lt (th_off t0 (by decide)))
      refine lv_aload_n hx hb dX10_feed_34 rfl (lv_at hl 0 rfl) ?_
      refine th_getK S hK f11 inG10 rfl (by decide) gm_505 rfl dX10_feed_35 ?_
      refine lv_iload_n hx hb dX10_feed_38 rfl (lv_at hl 3 rfl) ?_
      refine th_callVv (n := 1) (As := [.int y3]) S hK hH hS (th_A.sub (by decide)) (m_X8_append l D cT T q hq rf2 trf2 (y3) j3) gm_543 gm_540 gm_541 gm_542 gm_114 (by decide +kernel) ⟨rfl, rfl, Nat.le_of_ble_eq_true rfl, Nat.le_of_ble_eq_true rfl⟩ trf2 kd_1 rfl rfl hl.1 rfl (Nat.le_of_ble_eq_true rfl) dX10_feed_39 ⟨Nat.zero_le _, Nat.zero_le _⟩ (fun H locs hH hS hF1 => ?_)
      have f13 := f11.kept (hF1 _ f11.lt (th_off t0 (by decide)))
      refine lv_aload_n hx hb dX10_feed_42 rfl (lv_at hl 0 rfl) ?_
      refine th_getK S hK f13 inG10 rfl (by decide) gm_505 rfl dX10_feed_43 ?_
      refine lv_iload hx hb dX10_feed_46 (lv_at hl 4 rfl) ?_
      refine th_callVv (n := 1) (As := [.int y4]) S hK hH hS (th_A.sub (by decide)) (m_X8_append l D cT T q hq rf2 trf2 (y4) j4) gm_543 gm_540 gm_541 gm_542 gm_114 (by decide +kernel) ⟨rfl, rfl, Nat.le_of_ble_eq_true rfl, Nat.le_of_ble_eq_true rfl⟩ trf2 kd_1 rfl rfl hl.1 rfl (Nat.le_of_ble_eq_true rfl) dX10_feed_48 ⟨Nat.zero_le _, Nat.zero_le _⟩ (fun H locs hH hS hF1 => ?_)
      have f15 := f13.kept (hF1 _ f13.lt (th_off t0 (by decide)))
      refine lv_aload_n hx hb dX10_feed_51 rfl (lv_at hl 0 rfl) ?_
      refine th_getK S hK f15 inG10 rfl (by decide) gm_505 rfl dX10_feed_52 ?_
      refine lv_iload hx hb dX10_feed_55 (lv_at hl 5 rfl) ?_
      refine th_callVv (n := 1) (As := [.int y5]) S hK hH hS (th_A.sub (by decide)) (m_X8_append l D cT T q hq rf2 trf2 (y5) j5) gm_543 gm_540 gm_541 gm_542 gm_114 (by decide +kernel) ⟨rfl, rfl, Nat.le_of_ble_eq_true rfl, Nat.le_of_ble_eq_true rfl⟩ trf2 kd_1 rfl rfl hl.1 rfl (Nat.le_of_ble_eq_true rfl) dX10_feed_57 ⟨Nat.zero_le _, Nat.zero_le _⟩ (fun H locs hH hS hF1 => ?_)
      have f17 := f15.kept (hF1 _ f15.lt (th_off t0 (by decide)))
      refine lv_aload_n hx hb dX10_feed_60 rfl (lv_at hl 0 rfl) ?_
      refine th_getK S hK f17 inG10 rfl (by decide) gm_505 rfl dX10_feed_61 ?_
      refine th_get S hK hH inG8 trf2 kd_1 rfl 4 (by decide) gm_156 rfl rfl dX10_feed_64 (fun v19 hv19 fv19 => ?_)
      obtain ⟨x20, rfl, ix20⟩ := th_V.int hv19
      exact th_iret S hK hH hS hr hlocks (th_R.i (iv_w ix20 (by decide))) dX10_feed_67
    · skip
      have ir21 : IV x5 1601 1620 := iv_uR (iv_c (by decide) : IV 1600 1600 1600) ix5 (iv_nle c6) (by decide)
      refine lv_iconst (v := (-1)) hx hb dX10_feed_16 (by decide) ?_
      exact th_iret S hK hH hS hr hlocks (th_R.i (iv_w (iv_c (by decide) : IV (-1) (-1) (-1)) (by decide))) dX10_feed_17
  exact J0 s.heap [] ls hH va_S.rf hl

set_option maxRecDepth 100000 in
theorem m_X10_end (l : Launch) (D : va_G) (cT : Nat → ClassId) (T : Nat → Option Nat) (q : Nat → Int) (hq : qok q) (a0 : Nat) (t0 : T a0 = some 0) (y1 : Int32) (j1 : IV y1 (-2147483648) 2147483647) : th_Met l D cT T (kd q) yX10_end cX10_end 2 (some .int) (rmk 0 0) [.ref a0, .int y1] (th_R T (some (.inl (-1, 1600)))) [1] := by
  refine th_start (by decide) (Nat.le_of_ble_eq_true rfl) ?_
  intro p e s m below meth c ls S hK hH hr hlocks hnm hl
  have hx := S.1
  have hb := S.2.1
  have hl : lv_has ls 2 [(0, .ref a0), (1, .int y1)] := hl
  have J15 : ∀ (H : Heap) (locs : List Loc) (ls : Array Slot), th_H D cT T (kd q) H → va_S (th_A T [1]) s.heap H locs → lv_has ls 2 [] → W p l e (rmk 0 0) s m [.ref a0, .int y1].toArray below meth c H locs 0 0 (MQ below (th_Q D cT T (kd q) (th_R T (some (.inl (-1, 1600)))) [1]) [.ref a0, .int y1].toArray s 0 0 (th_A T [1])) (F0 m 15 ls []) := by
    intro H locs ls hH hS hl
    refine lv_iconst (v := (-1)) hx hb dX10_end_15 (by decide) ?_
    exact th_iret S hK hH hS hr hlocks (th_R.i (iv_w (iv_c (by decide) : IV (-1) (-1) (-1)) (by decide))) dX10_end_16
  have J0 : ∀ (H : Heap) (locs : List Loc) (ls : Array Slot), th_H D cT T (kd q) H → va_S (th_A T [1]) s.heap H locs → lv_has ls 2 [(0, .ref a0), (1, .int y1)] → W p l e (rmk 0 0) s m [.ref a0, .int y1].toArray below meth c H locs 0 0 (MQ below (th_Q D cT T (kd q) (th_R T (some (.inl (-1, 1600)))) [1]) [.ref a0, .int y1].toArray s 0 0 (th_A T [1])) (F0 m 0 ls []) := by
    intro H locs ls hH hS hl
    refine lv_iload_n hx hb dX10_end_0 rfl (lv_at hl 1 rfl) ?_
    refine lv_if_lt (tgt := 15) hx hb dX10_end_1 (by decide) (fun c1 => ?_) (fun c1 => ?_)
    · skip
      have ir2 : IV y1 (-2147483648) (-1) := iv_uL j1 (iv_c (by decide) : IV 0 0 0) (iv_lt c1) (by decide)
      exact J15 H locs ls  hH hS (lv_sub hl [] rfl)
    · skip
      have ir3 : IV y1 0 2147483647 := iv_vR (iv_c (by decide) : IV 0 0 0) j1 (iv_nlt c1) (by decide)
      refine lv_iload_n hx hb dX10_end_4 rfl (lv_at hl 1 rfl) ?_
      refine lv_aload_n hx hb dX10_end_5 rfl (lv_at hl 0 rfl) ?_
      refine th_get S hK hH inG10 t0 kd_0 rfl 0 (by decide) gm_505 rfl rfl dX10_end_6 (fun v4 hv4 fv4 => ?_)
      obtain ⟨rf5, rfl, trf5⟩ := th_V.ref hv4
      refine th_get S hK hH inG8 trf5 kd_1 rfl 4 (by decide) gm_156 rfl rfl dX10_end_9 (fun v6 hv6 fv6 => ?_)
      obtain ⟨x7, rfl, ix7⟩ := th_V.int hv6
      refine lv_icmp_le (tgt := 17) hx hb dX10_end_12 (by decide) (fun c8 => ?_) (fun c8 => ?_)
      · skip
        have ir9 : IV y1 0 1600 := iv_vL ir3 ix7 (iv_le c8) (by decide)
        refine lv_aload_n hx hb dX10_end_17 rfl (lv_at hl 0 rfl) ?_
        refine th_getK S hK fv4 inG10 rfl (by decide) gm_505 rfl dX10_end_18 ?_
        refine lv_iload_n hx hb dX10_end_21 rfl (lv_at hl 1 rfl) ?_
        refine th_put S hK hH hS ⟨1, by decide, trf5⟩ inG8 tyX8 tyX8_ok nmX8 trf5 kd_1 rfl 4 (by decide) gm_156 rfl rfl rfl rfl (th_iv ir9) (fun _ _ => trivial) (ty := .int) (by decide +kernel) rfl rfl dX10_end_22 (fun H locs hH hS hq1 hp1 => ?_)
        have f11 := fv4.kept (hq1 _ (th_ne t0 trf5 (by decide)))
        have f12 := hp1.1
        refine lv_iload_n hx hb dX10_end_25 rfl (lv_at hl 1 rfl) ?_
        exact th_iret S hK hH hS hr hlocks (th_R.i (iv_w ir9 (by decide))) dX10_end_26
      · skip
        have ir13 : IV y1 1 2147483647 := iv_uR ix7 ir3 (iv_nle c8) (by decide)
        exact J15 H locs ls  hH hS (lv_sub hl [] rfl)
  exact J0 s.heap [] ls hH va_S.rf hl

set_option maxRecDepth 100000 in
theorem m_X10_fault (l : Launch) (D : va_G) (cT : Nat → ClassId) (T : Nat → Option Nat) (q : Nat → Int) (hq : qok q) (a0 : Nat) (t0 : T a0 = some 0) (y1 : Int32) (j1 : IV y1 (-2147483648) 2147483647) : th_Met l D cT T (kd q) yX10_fault cX10_fault 2 (some .int) (rmk 0 0) [.ref a0, .int y1] (th_R T (some (.inl (-2147483648, 2147483647)))) [] := by
  refine th_start (by decide) (Nat.le_of_ble_eq_true rfl) ?_
  intro p e s m below meth c ls S hK hH hr hlocks hnm hl
  have hx := S.1
  have hb := S.2.1
  have hl : lv_has ls 2 [(0, .ref a0), (1, .int y1)] := hl
  have J28 : ∀ (H : Heap) (locs : List Loc) (ls : Array Slot) (w28_0 : Int32), IV w28_0 (-2147483648) 2147483647 → th_H D cT T (kd q) H → va_S (th_A T []) s.heap H locs → lv_has ls 2 [] → W p l e (rmk 0 0) s m [.ref a0, .int y1].toArray below meth c H locs 0 0 (MQ below (th_Q D cT T (kd q) (th_R T (some (.inl (-2147483648, 2147483647)))) []) [.ref a0, .int y1].toArray s 0 0 (th_A T [])) (F0 m 28 ls [.int w28_0]) := by
    intro H locs ls w28_0 iw28_0 hH hS hl
    exact th_iret S hK hH hS hr hlocks (th_R.i iw28_0) dX10_fault_28
  have J28_s0_m1 : ∀ (H : Heap) (locs : List Loc) (ls : Array Slot), th_H D cT T (kd q) H → va_S (th_A T []) s.heap H locs → lv_has ls 2 [] → W p l e (rmk 0 0) s m [.ref a0, .int y1].toArray below meth c H locs 0 0 (MQ below (th_Q D cT T (kd q) (th_R T (some (.inl (-2147483648, 2147483647)))) []) [.ref a0, .int y1].toArray s 0 0 (th_A T [])) (F0 m 28 ls [.int (-1)]) := by
    intro H locs ls hH hS hl
    exact th_iret S hK hH hS hr hlocks (th_R.i (iv_top _)) dX10_fault_28
  have J0 : ∀ (H : Heap) (locs : List Loc) (ls : Array Slot), th_H D cT T (kd q) H → va_S (th_A T []) s.heap H locs → lv_has ls 2 [(0, .ref a0), (1, .int y1)] → W p l e (rmk 0 0) s m [.ref a0, .int y1].toArray below meth c H locs 0 0 (MQ below (th_Q D cT T (kd q) (th_R T (some (.inl (-2147483648, 2147483647)))) []) [.ref a0, .int y1].toArray s 0 0 (th_A T [])) (F0 m 0 ls []) := by
    intro H locs ls hH hS hl
    refine lv_iload_n hx hb dX10_fault_0 rfl (lv_at hl 1 rfl) ?_
    refine lv_if_ne (tgt := 12) hx hb dX10_fault_1 (by decide) (fun c1 => ?_) (fun c1 => ?_)
    · skip
      refine lv_iload_n hx hb dX10_fault_12 rfl (lv_at hl 1 rfl) ?_
      refine lv_iconst (v := 1) hx hb dX10_fault_13 (by decide) ?_
      refine lv_icmp_ne (tgt := 27) hx hb dX10_fault_14 (by decide) (fun c2 => ?_) (fun c2 => ?_)
      · skip
        refine lv_iconst (v := (-1)) hx hb dX10_fault_27 (by decide) ?_
        exact J28_s0_m1 H locs ls  hH hS (lv_sub hl [] rfl)
      · skip
        have ir3 : IV y1 1 1 := iv_eL c2 (iv_c (by decide) : IV 1 1 1)
        refine lv_aload_n hx hb dX10_fault_17 rfl (lv_at hl 0 rfl) ?_
        refine th_get S hK hH inG10 t0 kd_0 rfl 1 (by decide) gm_506 rfl rfl dX10_fault_18 (fun v4 hv4 fv4 => ?_)
        obtain ⟨rf5, rfl, trf5⟩ := th_V.ref hv4
        refine th_get S hK hH inG6 trf5 kd_2 rfl 5 (by decide) gm_347 rfl rfl dX10_fault_21 (fun v6 hv6 fv6 => ?_)
        obtain ⟨x7, rfl, ix7⟩ := th_V.int hv6
        refine lv_goto (tgt := 28) hx hb dX10_fault_24 (by decide) ?_
        exact J28 H locs ls x7 ix7 hH hS (lv_sub hl [] rfl)
    · skip
      have ir8 : IV y1 0 0 := iv_eL c1 (iv_c (by decide) : IV 0 0 0)
      refine lv_aload_n hx hb dX10_fault_4 rfl (lv_at hl 0 rfl) ?_
      refine th_get S hK hH inG10 t0 kd_0 rfl 1 (by decide) gm_506 rfl rfl dX10_fault_5 (fun v9 hv9 fv9 => ?_)
      obtain ⟨rf10, rfl, trf10⟩ := th_V.ref hv9
      refine th_get S hK hH inG6 trf10 kd_2 rfl 4 (by decide) gm_345 rfl rfl dX10_fault_8 (fun v11 hv11 fv11 => ?_)
      obtain ⟨x12, rfl, ix12⟩ := th_V.int hv11
      exact th_iret S hK hH hS hr hlocks (th_R.i ix12) dX10_fault_11
  exact J0 s.heap [] ls hH va_S.rf hl

set_option maxRecDepth 100000 in
theorem m_X10_isFood (l : Launch) (D : va_G) (cT : Nat → ClassId) (T : Nat → Option Nat) (q : Nat → Int) (hq : qok q) (a0 : Nat) (t0 : T a0 = some 0) (y1 : Int32) (j1 : IV y1 (-2147483648) 2147483647) : th_Met l D cT T (kd q) yX10_isFood cX10_isFood 2 (some .boolean) (rmk 0 0) [.ref a0, .int y1] (th_RG y1 0 2) [] := by
  refine th_start (by decide) (Nat.le_of_ble_eq_true rfl) ?_
  intro p e s m below meth c ls S hK hH hr hlocks hnm hl
  have hx := S.1
  have hb := S.2.1
  have hl : lv_has ls 2 [(0, .ref a0), (1, .int y1)] := hl
  have J20_s0_0 : ∀ (H : Heap) (locs : List Loc) (ls : Array Slot), th_H D cT T (kd q) H → va_S (th_A T []) s.heap H locs → lv_has ls 2 [] → W p l e (rmk 0 0) s m [.ref a0, .int y1].toArray below meth c H locs 0 0 (MQ below (th_Q D cT T (kd q) (th_RG y1 0 2) []) [.ref a0, .int y1].toArray s 0 0 (th_A T [])) (F0 m 20 ls [.int 0]) := by
    intro H locs ls hH hS hl
    exact th_zret S hK hH hS hr hlocks (iv_w (iv_c (by decide) : IV 0 0 0) (by decide)) (th_RG.i (iv_w (iv_c (by decide) : IV 0 0 0) (by decide)) (fun z => absurd rfl z)) dX10_isFood_20
  have J20_s0_1 : ∀ (H : Heap) (locs : List Loc) (ls : Array Slot), IV y1 0 2 → th_H D cT T (kd q) H → va_S (th_A T []) s.heap H locs → lv_has ls 2 [] → W p l e (rmk 0 0) s m [.ref a0, .int y1].toArray below meth c H locs 0 0 (MQ below (th_Q D cT T (kd q) (th_RG y1 0 2) []) [.ref a0, .int y1].toArray s 0 0 (th_A T [])) (F0 m 20 ls [.int 1]) := by
    intro H locs ls f20_y1 hH hS hl
    exact th_zret S hK hH hS hr hlocks (iv_w (iv_c (by decide) : IV 1 1 1) (by decide)) (th_RG.i (iv_w (iv_c (by decide) : IV 1 1 1) (by decide)) (fun _ => f20_y1)) dX10_isFood_20
  have J19 : ∀ (H : Heap) (locs : List Loc) (ls : Array Slot), th_H D cT T (kd q) H → va_S (th_A T []) s.heap H locs → lv_has ls 2 [] → W p l e (rmk 0 0) s m [.ref a0, .int y1].toArray below meth c H locs 0 0 (MQ below (th_Q D cT T (kd q) (th_RG y1 0 2) []) [.ref a0, .int y1].toArray s 0 0 (th_A T [])) (F0 m 19 ls []) := by
    intro H locs ls hH hS hl
    refine lv_iconst (v := 0) hx hb dX10_isFood_19 (by decide) ?_
    exact J20_s0_0 H locs ls  hH hS (lv_sub hl [] rfl)
  have J0 : ∀ (H : Heap) (locs : List Loc) (ls : Array Slot), th_H D cT T (kd q) H → va_S (th_A T []) s.heap H locs → lv_has ls 2 [(0, .ref a0), (1, .int y1)] → W p l e (rmk 0 0) s m [.ref a0, .int y1].toArray below meth c H locs 0 0 (MQ below (th_Q D cT T (kd q) (th_RG y1 0 2) []) [.ref a0, .int y1].toArray s 0 0 (th_A T [])) (F0 m 0 ls []) := by
    intro H locs ls hH hS hl
    refine lv_iload_n hx hb dX10_isFood_0 rfl (lv_at hl 1 rfl) ?_
    refine lv_if_lt (tgt := 19) hx hb dX10_isFood_1 (by decide) (fun c1 => ?_) (fun c1 => ?_)
    · skip
      have ir2 : IV y1 (-2147483648) (-1) := iv_uL j1 (iv_c (by decide) : IV 0 0 0) (iv_lt c1) (by decide)
      exact J19 H locs ls  hH hS (lv_sub hl [] rfl)
    · skip
      have ir3 : IV y1 0 2147483647 := iv_vR (iv_c (by decide) : IV 0 0 0) j1 (iv_nlt c1) (by decide)
      refine lv_iload_n hx hb dX10_isFood_4 rfl (lv_at hl 1 rfl) ?_
      refine lv_aload_n hx hb dX10_isFood_5 rfl (lv_at hl 0 rfl) ?_
      refine th_get S hK hH inG10 t0 kd_0 rfl 2 (by decide) gm_507 rfl rfl dX10_isFood_6 (fun v4 hv4 fv4 => ?_)
      obtain ⟨rf5, rfl, trf5⟩ := th_V.ref hv4
      refine th_get S hK hH inG4 trf5 kd_3 rfl 11 (by decide) gm_277 rfl rfl dX10_isFood_9 (fun v6 hv6 fv6 => ?_)
      obtain ⟨x7, rfl, ix7⟩ := th_V.int hv6
      refine lv_icmp_ge (tgt := 19) hx hb dX10_isFood_12 (by decide) (fun c8 => ?_) (fun c8 => ?_)
      · skip
        exact J19 H locs ls  hH hS (lv_sub hl [] rfl)
      · skip
        have ir9 : IV y1 0 2 := iv_uL ir3 ix7 (iv_nle c8) (by decide)
        have ir10 : IV x7 1 3 := iv_uR ir3 ix7 (iv_nle c8) (by decide)
        refine lv_iconst (v := 1) hx hb dX10_isFood_15 (by decide) ?_
        refine lv_goto (tgt := 20) hx hb dX10_isFood_16 (by decide) ?_
        exact J20_s0_1 H locs ls ir9 hH hS (lv_sub hl [] rfl)
  exact J0 s.heap [] ls hH va_S.rf hl

set_option maxRecDepth 100000 in
theorem m_X10_store (l : Launch) (D : va_G) (cT : Nat → ClassId) (T : Nat → Option Nat) (q : Nat → Int) (hq : qok q) (a0 : Nat) (t0 : T a0 = some 0) (y1 : Int32) (j1 : IV y1 (-2147483648) 2147483647) : th_Met l D cT T (kd q) yX10_store cX10_store 2 (some .int) (rmk 1 21) [.ref a0, .int y1] (th_R T (some (.inl (-2147483648, 2147483647)))) [] := by
  refine th_start (by decide) (Nat.le_of_ble_eq_true rfl) ?_
  intro p e s m below meth c ls S hK hH hr hlocks hnm hl
  have hx := S.1
  have hb := S.2.1
  have hl : lv_has ls 2 [(0, .ref a0), (1, .int y1)] := hl
  have J26 : ∀ (H : Heap) (locs : List Loc) (ls : Array Slot) (w26_0 : Int32), IV w26_0 (-2147483648) 2147483647 → th_H D cT T (kd q) H → va_S (th_A T []) s.heap H locs → lv_has ls 2 [] → W p l e (rmk 1 21) s m [.ref a0, .int y1].toArray below meth c H locs 0 0 (MQ below (th_Q D cT T (kd q) (th_R T (some (.inl (-2147483648, 2147483647)))) []) [.ref a0, .int y1].toArray s 0 0 (th_A T [])) (F0 m 26 ls [.int w26_0]) := by
    intro H locs ls w26_0 iw26_0 hH hS hl
    exact th_iret S hK hH hS hr hlocks (th_R.i iw26_0) dX10_store_26
  have J26_s0_m1 : ∀ (H : Heap) (locs : List Loc) (ls : Array Slot), th_H D cT T (kd q) H → va_S (th_A T []) s.heap H locs → lv_has ls 2 [] → W p l e (rmk 1 21) s m [.ref a0, .int y1].toArray below meth c H locs 0 0 (MQ below (th_Q D cT T (kd q) (th_R T (some (.inl (-2147483648, 2147483647)))) []) [.ref a0, .int y1].toArray s 0 0 (th_A T [])) (F0 m 26 ls [.int (-1)]) := by
    intro H locs ls hH hS hl
    exact th_iret S hK hH hS hr hlocks (th_R.i (iv_top _)) dX10_store_26
  have J0 : ∀ (H : Heap) (locs : List Loc) (ls : Array Slot), th_H D cT T (kd q) H → va_S (th_A T []) s.heap H locs → lv_has ls 2 [(0, .ref a0), (1, .int y1)] → W p l e (rmk 1 21) s m [.ref a0, .int y1].toArray below meth c H locs 0 0 (MQ below (th_Q D cT T (kd q) (th_R T (some (.inl (-2147483648, 2147483647)))) []) [.ref a0, .int y1].toArray s 0 0 (th_A T [])) (F0 m 0 ls []) := by
    intro H locs ls hH hS hl
    refine lv_aload_n hx hb dX10_store_0 rfl (lv_at hl 0 rfl) ?_
    refine lv_iload_n hx hb dX10_store_1 rfl (lv_at hl 1 rfl) ?_
    refine th_callVg (n := 1) (As := [.int y1]) S hK hH hS (th_A.sub (by decide)) (m_X10_isFood l D cT T q hq a0 t0 (y1) j1) gm_824 gm_821 gm_823 gm_23 gm_113 (by decide +kernel) ⟨rfl, rfl, Nat.le_of_ble_eq_true rfl, Nat.le_of_ble_eq_true rfl⟩ t0 kd_0 rfl rfl hl.1 rfl (Nat.le_of_ble_eq_true rfl) dX10_store_2 ⟨Nat.zero_le _, Nat.zero_le _⟩ (fun x1 H locs ix1 ox1 hH hS hF1 => ?_)
    refine lv_if_eq (tgt := 25) hx hb dX10_store_5 (by decide) (fun c2 => ?_) (fun c2 => ?_)
    · skip
      have ir3 : IV x1 0 0 := iv_eL c2 (iv_c (by decide) : IV 0 0 0)
      refine lv_iconst (v := (-1)) hx hb dX10_store_25 (by decide) ?_
      exact J26_s0_m1 H locs ls  hH hS (lv_sub hl [] rfl)
    · skip
      have ir4 : IV x1 1 1 := iv_cutL ix1 (iv_c (by decide) : IV 0 0 0) c2 (by decide)
      have ir5 : IV y1 0 2 := ox1 c2
      refine lv_aload_n hx hb dX10_store_8 rfl (lv_at hl 0 rfl) ?_
      refine th_get S hK hH inG10 t0 kd_0 rfl 4 (by decide) gm_509 rfl rfl dX10_store_9 (fun v6 hv6 fv6 => ?_)
      obtain ⟨rf7, rfl, trf7⟩ := th_V.ref hv6
      refine th_callVr (n := 0) (As := []) S hK hH hS (th_A.sub (by decide)) (m_X3_now l D cT T q hq rf7 trf7) gm_828 gm_825 gm_826 gm_827 gm_120 (by decide +kernel) ⟨rfl, rfl, Nat.le_of_ble_eq_true rfl, Nat.le_of_ble_eq_true rfl⟩ trf7 kd_5 rfl rfl hl.1 rfl (Nat.le_of_ble_eq_true rfl) dX10_store_12 ⟨Nat.zero_le _, Nat.zero_le _⟩ (fun rf8 H locs trf8 hH hS hF1 => ?_)
      refine th_get S hK hH inG7 trf8 kd_10 rfl 0 (by decide) gm_231 rfl rfl dX10_store_15 (fun v9 hv9 fv9 => ?_)
      obtain ⟨rf10, rfl, trf10⟩ := th_V.ref hv9
      refine lv_iconst (v := 0) hx hb dX10_store_18 (by decide) ?_
      refine lv_iload_n hx hb dX10_store_19 rfl (lv_at hl 1 rfl) ?_
      refine lv_iadd hx hb dX10_store_20 ?_
      refine lv_topi (fun x11 ex11 => ?_)
      have ix11 : IV x11 0 2 := by rw [ex11]; exact iv_add (iv_c (by decide) : IV 0 0 0) ir5 (by decide)
      refine th_iald S hK hH trf10 kd_29 (th_in (hi := 2) ix11 (by decide)) dX10_store_21 (fun v12 hv12 => ?_)
      obtain ⟨x13, rfl, ix13⟩ := th_V.int hv12
      refine lv_goto (tgt := 26) hx hb dX10_store_22 (by decide) ?_
      exact J26 H locs ls x13 ix13 hH hS (lv_sub hl [] rfl)
  exact J0 s.heap [] ls hH va_S.rf hl

set_option maxRecDepth 100000 in
theorem m_X10_isMap (l : Launch) (D : va_G) (cT : Nat → ClassId) (T : Nat → Option Nat) (q : Nat → Int) (hq : qok q) (a0 : Nat) (t0 : T a0 = some 0) (y1 : Int32) (j1 : IV y1 (-2147483648) 2147483647) : th_Met l D cT T (kd q) yX10_isMap cX10_isMap 2 (some .boolean) (rmk 0 0) [.ref a0, .int y1] (th_RG y1 0 3) [] := by
  refine th_start (by decide) (Nat.le_of_ble_eq_true rfl) ?_
  intro p e s m below meth c ls S hK hH hr hlocks hnm hl
  have hx := S.1
  have hb := S.2.1
  have hl : lv_has ls 2 [(0, .ref a0), (1, .int y1)] := hl
  have J20_s0_0 : ∀ (H : Heap) (locs : List Loc) (ls : Array Slot), th_H D cT T (kd q) H → va_S (th_A T []) s.heap H locs → lv_has ls 2 [] → W p l e (rmk 0 0) s m [.ref a0, .int y1].toArray below meth c H locs 0 0 (MQ below (th_Q D cT T (kd q) (th_RG y1 0 3) []) [.ref a0, .int y1].toArray s 0 0 (th_A T [])) (F0 m 20 ls [.int 0]) := by
    intro H locs ls hH hS hl
    exact th_zret S hK hH hS hr hlocks (iv_w (iv_c (by decide) : IV 0 0 0) (by decide)) (th_RG.i (iv_w (iv_c (by decide) : IV 0 0 0) (by decide)) (fun z => absurd rfl z)) dX10_isMap_20
  have J20_s0_1 : ∀ (H : Heap) (locs : List Loc) (ls : Array Slot), IV y1 0 3 → th_H D cT T (kd q) H → va_S (th_A T []) s.heap H locs → lv_has ls 2 [] → W p l e (rmk 0 0) s m [.ref a0, .int y1].toArray below meth c H locs 0 0 (MQ below (th_Q D cT T (kd q) (th_RG y1 0 3) []) [.ref a0, .int y1].toArray s 0 0 (th_A T [])) (F0 m 20 ls [.int 1]) := by
    intro H locs ls f20_y1 hH hS hl
    exact th_zret S hK hH hS hr hlocks (iv_w (iv_c (by decide) : IV 1 1 1) (by decide)) (th_RG.i (iv_w (iv_c (by decide) : IV 1 1 1) (by decide)) (fun _ => f20_y1)) dX10_isMap_20
  have J19 : ∀ (H : Heap) (locs : List Loc) (ls : Array Slot), th_H D cT T (kd q) H → va_S (th_A T []) s.heap H locs → lv_has ls 2 [] → W p l e (rmk 0 0) s m [.ref a0, .int y1].toArray below meth c H locs 0 0 (MQ below (th_Q D cT T (kd q) (th_RG y1 0 3) []) [.ref a0, .int y1].toArray s 0 0 (th_A T [])) (F0 m 19 ls []) := by
    intro H locs ls hH hS hl
    refine lv_iconst (v := 0) hx hb dX10_isMap_19 (by decide) ?_
    exact J20_s0_0 H locs ls  hH hS (lv_sub hl [] rfl)
  have J0 : ∀ (H : Heap) (locs : List Loc) (ls : Array Slot), th_H D cT T (kd q) H → va_S (th_A T []) s.heap H locs → lv_has ls 2 [(0, .ref a0), (1, .int y1)] → W p l e (rmk 0 0) s m [.ref a0, .int y1].toArray below meth c H locs 0 0 (MQ below (th_Q D cT T (kd q) (th_RG y1 0 3) []) [.ref a0, .int y1].toArray s 0 0 (th_A T [])) (F0 m 0 ls []) := by
    intro H locs ls hH hS hl
    refine lv_iload_n hx hb dX10_isMap_0 rfl (lv_at hl 1 rfl) ?_
    refine lv_if_lt (tgt := 19) hx hb dX10_isMap_1 (by decide) (fun c1 => ?_) (fun c1 => ?_)
    · skip
      have ir2 : IV y1 (-2147483648) (-1) := iv_uL j1 (iv_c (by decide) : IV 0 0 0) (iv_lt c1) (by decide)
      exact J19 H locs ls  hH hS (lv_sub hl [] rfl)
    · skip
      have ir3 : IV y1 0 2147483647 := iv_vR (iv_c (by decide) : IV 0 0 0) j1 (iv_nlt c1) (by decide)
      refine lv_iload_n hx hb dX10_isMap_4 rfl (lv_at hl 1 rfl) ?_
      refine lv_aload_n hx hb dX10_isMap_5 rfl (lv_at hl 0 rfl) ?_
      refine th_get S hK hH inG10 t0 kd_0 rfl 2 (by decide) gm_507 rfl rfl dX10_isMap_6 (fun v4 hv4 fv4 => ?_)
      obtain ⟨rf5, rfl, trf5⟩ := th_V.ref hv4
      refine th_get S hK hH inG4 trf5 kd_3 rfl 12 (by decide) gm_282 rfl rfl dX10_isMap_9 (fun v6 hv6 fv6 => ?_)
      obtain ⟨x7, rfl, ix7⟩ := th_V.int hv6
      refine lv_icmp_ge (tgt := 19) hx hb dX10_isMap_12 (by decide) (fun c8 => ?_) (fun c8 => ?_)
      · skip
        exact J19 H locs ls  hH hS (lv_sub hl [] rfl)
      · skip
        have ir9 : IV y1 0 3 := iv_uL ir3 ix7 (iv_nle c8) (by decide)
        have ir10 : IV x7 1 4 := iv_uR ir3 ix7 (iv_nle c8) (by decide)
        refine lv_iconst (v := 1) hx hb dX10_isMap_15 (by decide) ?_
        refine lv_goto (tgt := 20) hx hb dX10_isMap_16 (by decide) ?_
        exact J20_s0_1 H locs ls ir9 hH hS (lv_sub hl [] rfl)
  exact J0 s.heap [] ls hH va_S.rf hl

set_option maxRecDepth 100000 in
theorem m_X10_map (l : Launch) (D : va_G) (cT : Nat → ClassId) (T : Nat → Option Nat) (q : Nat → Int) (hq : qok q) (a0 : Nat) (t0 : T a0 = some 0) (y1 : Int32) (j1 : IV y1 (-2147483648) 2147483647) (y2 : Int32) (j2 : IV y2 (-2147483648) 2147483647) : th_Met l D cT T (kd q) yX10_map cX10_map 4 (some .int) (rmk 2 51) [.ref a0, .int y1, .int y2] (th_R T (some (.inl (-2147483648, 2147483647)))) [18, 19] := by
  refine th_start (by decide) (Nat.le_of_ble_eq_true rfl) ?_
  intro p e s m below meth c ls S hK hH hr hlocks hnm hl
  have hx := S.1
  have hb := S.2.1
  have hl : lv_has ls 4 [(0, .ref a0), (1, .int y1), (2, .int y2)] := hl
  have J0 : ∀ (H : Heap) (locs : List Loc) (ls : Array Slot), th_H D cT T (kd q) H → va_S (th_A T [18, 19]) s.heap H locs → lv_has ls 4 [(0, .ref a0), (1, .int y1), (2, .int y2)] → W p l e (rmk 2 51) s m [.ref a0, .int y1, .int y2].toArray below meth c H locs 0 0 (MQ below (th_Q D cT T (kd q) (th_R T (some (.inl (-2147483648, 2147483647)))) [18, 19]) [.ref a0, .int y1, .int y2].toArray s 0 0 (th_A T [18, 19])) (F0 m 0 ls []) := by
    intro H locs ls hH hS hl
    refine lv_aload_n hx hb dX10_map_0 rfl (lv_at hl 0 rfl) ?_
    refine lv_iload_n hx hb dX10_map_1 rfl (lv_at hl 1 rfl) ?_
    refine th_callVg (n := 1) (As := [.int y1]) S hK hH hS (th_A.sub (by decide)) (m_X10_isMap l D cT T q hq a0 t0 (y1) j1) gm_836 gm_833 gm_835 gm_24 gm_113 (by decide +kernel) ⟨rfl, rfl, Nat.le_of_ble_eq_true rfl, Nat.le_of_ble_eq_true rfl⟩ t0 kd_0 rfl rfl hl.1 rfl (Nat.le_of_ble_eq_true rfl) dX10_map_2 ⟨Nat.zero_le _, Nat.zero_le _⟩ (fun x1 H locs ix1 ox1 hH hS hF1 => ?_)
    refine lv_if_ne (tgt := 10) hx hb dX10_map_5 (by decide) (fun c2 => ?_) (fun c2 => ?_)
    · skip
      have ir3 : IV x1 1 1 := iv_cutL ix1 (iv_c (by decide) : IV 0 0 0) c2 (by decide)
      have ir4 : IV y1 0 3 := ox1 c2
      refine lv_aload_n hx hb dX10_map_10 rfl (lv_at hl 0 rfl) ?_
      refine th_get S hK hH inG10 t0 kd_0 rfl 4 (by decide) gm_509 rfl rfl dX10_map_11 (fun v5 hv5 fv5 => ?_)
      obtain ⟨rf6, rfl, trf6⟩ := th_V.ref hv5
      refine th_callVr (n := 0) (As := []) S hK hH hS (th_A.sub (by decide)) (m_X3_now l D cT T q hq rf6 trf6) gm_828 gm_825 gm_826 gm_827 gm_120 (by decide +kernel) ⟨rfl, rfl, Nat.le_of_ble_eq_true rfl, Nat.le_of_ble_eq_true rfl⟩ trf6 kd_5 rfl rfl hl.1 rfl (Nat.le_of_ble_eq_true rfl) dX10_map_14 ⟨Nat.zero_le _, Nat.zero_le _⟩ (fun rf7 H locs trf7 hH hS hF1 => ?_)
      refine lv_astore_n (lv' := [(3, .ref rf7), (0, .ref a0), (1, .int y1), (2, .int y2)]) hx hb dX10_map_17 rfl hl (by decide) rfl (fun ls hl => ?_)
      refine lv_iload_n hx hb dX10_map_18 rfl (lv_at hl 3 rfl) ?_
      by_cases c8 : y2.toInt < 0 ∨ 7 < y2.toInt
      · refine lv_tableOut (tgt := 146) hx hb dX10_map_19 c8 (by decide) ?_
        refine lv_iconst (v := (-1)) hx hb dX10_map_146 (by decide) ?_
        exact th_iret S hK hH hS hr hlocks (th_R.i (iv_top _)) dX10_map_147
      · rcases (show y2.toInt = 0 ∨ y2.toInt = 1 ∨ y2.toInt = 2 ∨ y2.toInt = 3 ∨ y2.toInt = 4 ∨ y2.toInt = 5 ∨ y2.toInt = 6 ∨ y2.toInt = 7 by omega) with c8b | c8b | c8b | c8b | c8b | c8b | c8b | c8b
        · refine lv_tableIn (tgt := 64) (off := 45) hx hb dX10_map_19 (by omega) (by omega) (by rw [c8b]; rfl) (by decide) ?_
          refine lv_aload_n hx hb dX10_map_64 rfl (lv_at hl 1 rfl) ?_
          refine th_get S hK hH inG10 t0 kd_0 rfl 2 (by decide) gm_507 rfl rfl dX10_map_65 (fun v9 hv9 fv9 => ?_)
          obtain ⟨rf10, rfl, trf10⟩ := th_V.ref hv9
          refine th_get S hK hH inG4 trf10 kd_3 rfl 3 (by decide) gm_244 rfl rfl dX10_map_68 (fun v11 hv11 fv11 => ?_)
          obtain ⟨rf12, rfl, trf12⟩ := th_V.ref hv11
          refine lv_iload_n hx hb dX10_map_71 rfl (lv_at hl 2 rfl) ?_
          refine th_iald S hK hH trf12 kd_23 (th_in (hi := 3) ir4 (by decide)) dX10_map_72 (fun v13 hv13 => ?_)
          obtain ⟨x14, rfl, ix14⟩ := th_V.int hv13
          exact th_iret S hK hH hS hr hlocks (th_R.i ix14) dX10_map_73
        · refine lv_tableIn (tgt := 74) (off := 55) hx hb dX10_map_19 (by omega) (by omega) (by rw [c8b]; rfl) (by decide) ?_
          refine lv_aload_n hx hb dX10_map_74 rfl (lv_at hl 1 rfl) ?_
          refine th_get S hK hH inG10 t0 kd_0 rfl 3 (by decide) gm_508 rfl rfl dX10_map_75 (fun v15 hv15 fv15 => ?_)
          obtain ⟨rf16, rfl, trf16⟩ := th_V.ref hv15
          refine lv_aload_n hx hb dX10_map_78 rfl (lv_at hl 0 rfl) ?_
          refine lv_iload_n hx hb dX10_map_79 rfl (lv_at hl 2 rfl) ?_
          refine th_callVi (n := 2) (As := [.ref rf7, .int y1]) S hK hH hS (th_A.sub (by decide)) (m_X0_hungerOf l D cT T q hq rf16 trf16 rf7 trf7 (y1) ir4) gm_840 gm_837 gm_838 gm_839 gm_119 (by decide +kernel) ⟨rfl, rfl, Nat.le_of_ble_eq_true rfl, Nat.le_of_ble_eq_true rfl⟩ trf16 kd_4 rfl rfl hl.1 rfl (Nat.le_of_ble_eq_true rfl) dX10_map_80 ⟨Nat.zero_le _, Nat.zero_le _⟩ (fun x17 H locs ix17 hH hS hF1 => ?_)
          have f18 := fv15.kept (hF1 _ fv15.lt (th_off t0 (by decide)))
          exact th_iret S hK hH hS hr hlocks (th_R.i (iv_top _)) dX10_map_83
        · refine lv_tableIn (tgt := 84) (off := 65) hx hb dX10_map_19 (by omega) (by omega) (by rw [c8b]; rfl) (by decide) ?_
          refine lv_aload_n hx hb dX10_map_84 rfl (lv_at hl 1 rfl) ?_
          refine th_get S hK hH inG10 t0 kd_0 rfl 3 (by decide) gm_508 rfl rfl dX10_map_85 (fun v19 hv19 fv19 => ?_)
          obtain ⟨rf20, rfl, trf20⟩ := th_V.ref hv19
          refine lv_aload_n hx hb dX10_map_88 rfl (lv_at hl 0 rfl) ?_
          refine lv_iload_n hx hb dX10_map_89 rfl (lv_at hl 2 rfl) ?_
          refine th_callVi (n := 2) (As := [.ref rf7, .int y1]) S hK hH hS (th_A.sub (by decide)) (m_X0_givenTo l D cT T q hq rf20 trf20 rf7 trf7 (y1) ir4) gm_858 gm_855 gm_856 gm_857 gm_119 (by decide +kernel) ⟨rfl, rfl, Nat.le_of_ble_eq_true rfl, Nat.le_of_ble_eq_true rfl⟩ trf20 kd_4 rfl rfl hl.1 rfl (Nat.le_of_ble_eq_true rfl) dX10_map_90 ⟨Nat.zero_le _, Nat.zero_le _⟩ (fun x21 H locs ix21 hH hS hF1 => ?_)
          have f22 := fv19.kept (hF1 _ fv19.lt (th_off t0 (by decide)))
          exact th_iret S hK hH hS hr hlocks (th_R.i ix21) dX10_map_93
        · refine lv_tableIn (tgt := 94) (off := 75) hx hb dX10_map_19 (by omega) (by omega) (by rw [c8b]; rfl) (by decide) ?_
          refine lv_aload_n hx hb dX10_map_94 rfl (lv_at hl 0 rfl) ?_
          refine th_get S hK hH inG7 trf7 kd_10 rfl 0 (by decide) gm_231 rfl rfl dX10_map_95 (fun v23 hv23 fv23 => ?_)
          obtain ⟨rf24, rfl, trf24⟩ := th_V.ref hv23
          refine lv_bipush (v := 31) hx hb dX10_map_98 (by decide) ?_
          refine lv_iload_n hx hb dX10_map_100 rfl (lv_at hl 2 rfl) ?_
          refine lv_iadd hx hb dX10_map_101 ?_
          refine lv_topi (fun x25 ex25 => ?_)
          have ix25 : IV x25 31 34 := by rw [ex25]; exact iv_add (iv_c (by decide) : IV 31 31 31) ir4 (by decide)
          refine th_iald S hK hH trf24 kd_29 (th_in (hi := 34) (iv_w ix25 (by decide)) (by decide)) dX10_map_102 (fun v26 hv26 => ?_)
          obtain ⟨x27, rfl, ix27⟩ := th_V.int hv26
          exact th_iret S hK hH hS hr hlocks (th_R.i ix27) dX10_map_103
        · refine lv_tableIn (tgt := 104) (off := 85) hx hb dX10_map_19 (by omega) (by omega) (by rw [c8b]; rfl) (by decide) ?_
          refine lv_aload_n hx hb dX10_map_104 rfl (lv_at hl 0 rfl) ?_
          refine th_get S hK hH inG7 trf7 kd_10 rfl 0 (by decide) gm_231 rfl rfl dX10_map_105 (fun v28 hv28 fv28 => ?_)
          obtain ⟨rf29, rfl, trf29⟩ := th_V.ref hv28
          refine lv_bipush (v := 39) hx hb dX10_map_108 (by decide) ?_
          refine th_iald S hK hH trf29 kd_29 (th_in (hi := 39) (iv_w (iv_c (by decide) : IV 39 39 39) (by decide)) (by decide)) dX10_map_110 (fun v30 hv30 => ?_)
          obtain ⟨x31, rfl, ix31⟩ := th_V.int hv30
          refine lv_iload_n hx hb dX10_map_111 rfl (lv_at hl 2 rfl) ?_
          refine lv_ishr hx hb dX10_map_112 ?_
          refine lv_topi (fun x32 ex32 => ?_)
          have ix32 := iv_top x32
          refine lv_iconst (v := 1) hx hb dX10_map_113 (by decide) ?_
          refine lv_iand hx hb dX10_map_114 ?_
          refine lv_topi (fun x33 ex33 => ?_)
          have ix33 : IV x33 0 1 := by rw [ex33]; exact iv_and (h2 := 1) (iv_w (iv_c (by decide) : IV 1 1 1) (by decide)) (by decide)
          exact th_iret S hK hH hS hr hlocks (th_R.i (iv_top _)) dX10_map_115
        · refine lv_tableIn (tgt := 116) (off := 97) hx hb dX10_map_19 (by omega) (by omega) (by rw [c8b]; rfl) (by decide) ?_
          refine lv_aload_n hx hb dX10_map_116 rfl (lv_at hl 0 rfl) ?_
          refine th_get S hK hH inG7 trf7 kd_10 rfl 0 (by decide) gm_231 rfl rfl dX10_map_117 (fun v34 hv34 fv34 => ?_)
          obtain ⟨rf35, rfl, trf35⟩ := th_V.ref hv34
          refine lv_bipush (v := 35) hx hb dX10_map_120 (by decide) ?_
          refine lv_iload_n hx hb dX10_map_122 rfl (lv_at hl 2 rfl) ?_
          refine lv_iadd hx hb dX10_map_123 ?_
          refine lv_topi (fun x36 ex36 => ?_)
          have ix36 : IV x36 35 38 := by rw [ex36]; exact iv_add (iv_c (by decide) : IV 35 35 35) ir4 (by decide)
          refine th_iald S hK hH trf35 kd_29 (th_in (hi := 38) (iv_w ix36 (by decide)) (by decide)) dX10_map_124 (fun v37 hv37 => ?_)
          obtain ⟨x38, rfl, ix38⟩ := th_V.int hv37
          exact th_iret S hK hH hS hr hlocks (th_R.i ix38) dX10_map_125
        · refine lv_tableIn (tgt := 126) (off := 107) hx hb dX10_map_19 (by omega) (by omega) (by rw [c8b]; rfl) (by decide) ?_
          refine lv_aload_n hx hb dX10_map_126 rfl (lv_at hl 1 rfl) ?_
          refine th_get S hK hH inG10 t0 kd_0 rfl 2 (by decide) gm_507 rfl rfl dX10_map_127 (fun v39 hv39 fv39 => ?_)
          obtain ⟨rf40, rfl, trf40⟩ := th_V.ref hv39
          refine th_get S hK hH inG4 trf40 kd_3 rfl 6 (by decide) gm_255 rfl rfl dX10_map_130 (fun v41 hv41 fv41 => ?_)
          obtain ⟨rf42, rfl, trf42⟩ := th_V.ref hv41
          refine lv_iload_n hx hb dX10_map_133 rfl (lv_at hl 2 rfl) ?_
          refine th_iald S hK hH trf42 kd_26 (th_in (hi := 3) ir4 (by decide)) dX10_map_134 (fun v43 hv43 => ?_)
          obtain ⟨x44, rfl, ix44⟩ := th_V.int hv43
          exact th_iret S hK hH hS hr hlocks (th_R.i ix44) dX10_map_135
        · refine lv_tableIn (tgt := 136) (off := 117) hx hb dX10_map_19 (by omega) (by omega) (by rw [c8b]; rfl) (by decide) ?_
          refine lv_aload_n hx hb dX10_map_136 rfl (lv_at hl 1 rfl) ?_
          refine th_get S hK hH inG10 t0 kd_0 rfl 2 (by decide) gm_507 rfl rfl dX10_map_137 (fun v45 hv45 fv45 => ?_)
          obtain ⟨rf46, rfl, trf46⟩ := th_V.ref hv45
          refine th_get S hK hH inG4 trf46 kd_3 rfl 7 (by decide) gm_259 rfl rfl dX10_map_140 (fun v47 hv47 fv47 => ?_)
          obtain ⟨rf48, rfl, trf48⟩ := th_V.ref hv47
          refine lv_iload_n hx hb dX10_map_143 rfl (lv_at hl 2 rfl) ?_
          refine th_iald S hK hH trf48 kd_27 (th_in (hi := 3) ir4 (by decide)) dX10_map_144 (fun v49 hv49 => ?_)
          obtain ⟨x50, rfl, ix50⟩ := th_V.int hv49
          exact th_iret S hK hH hS hr hlocks (th_R.i ix50) dX10_map_145
    · skip
      have ir51 : IV x1 0 0 := iv_eL c2 (iv_c (by decide) : IV 0 0 0)
      refine lv_iconst (v := (-1)) hx hb dX10_map_8 (by decide) ?_
      exact th_iret S hK hH hS hr hlocks (th_R.i (iv_top _)) dX10_map_9
  exact J0 s.heap [] ls hH va_S.rf hl

set_option maxRecDepth 100000 in
theorem m_X10_isPlace (l : Launch) (D : va_G) (cT : Nat → ClassId) (T : Nat → Option Nat) (q : Nat → Int) (hq : qok q) (a0 : Nat) (t0 : T a0 = some 0) (y1 : Int32) (j1 : IV y1 (-2147483648) 2147483647) : th_Met l D cT T (kd q) yX10_isPlace cX10_isPlace 2 (some .boolean) (rmk 0 0) [.ref a0, .int y1] (th_RG y1 0 7) [] := by
  refine th_start (by decide) (Nat.le_of_ble_eq_true rfl) ?_
  intro p e s m below meth c ls S hK hH hr hlocks hnm hl
  have hx := S.1
  have hb := S.2.1
  have hl : lv_has ls 2 [(0, .ref a0), (1, .int y1)] := hl
  have J20_s0_0 : ∀ (H : Heap) (locs : List Loc) (ls : Array Slot), th_H D cT T (kd q) H → va_S (th_A T []) s.heap H locs → lv_has ls 2 [] → W p l e (rmk 0 0) s m [.ref a0, .int y1].toArray below meth c H locs 0 0 (MQ below (th_Q D cT T (kd q) (th_RG y1 0 7) []) [.ref a0, .int y1].toArray s 0 0 (th_A T [])) (F0 m 20 ls [.int 0]) := by
    intro H locs ls hH hS hl
    exact th_zret S hK hH hS hr hlocks (iv_w (iv_c (by decide) : IV 0 0 0) (by decide)) (th_RG.i (iv_w (iv_c (by decide) : IV 0 0 0) (by decide)) (fun z => absurd rfl z)) dX10_isPlace_20
  have J20_s0_1 : ∀ (H : Heap) (locs : List Loc) (ls : Array Slot), IV y1 0 7 → th_H D cT T (kd q) H → va_S (th_A T []) s.heap H locs → lv_has ls 2 [] → W p l e (rmk 0 0) s m [.ref a0, .int y1].toArray below meth c H locs 0 0 (MQ below (th_Q D cT T (kd q) (th_RG y1 0 7) []) [.ref a0, .int y1].toArray s 0 0 (th_A T [])) (F0 m 20 ls [.int 1]) := by
    intro H locs ls f20_y1 hH hS hl
    exact th_zret S hK hH hS hr hlocks (iv_w (iv_c (by decide) : IV 1 1 1) (by decide)) (th_RG.i (iv_w (iv_c (by decide) : IV 1 1 1) (by decide)) (fun _ => f20_y1)) dX10_isPlace_20
  have J19 : ∀ (H : Heap) (locs : List Loc) (ls : Array Slot), th_H D cT T (kd q) H → va_S (th_A T []) s.heap H locs → lv_has ls 2 [] → W p l e (rmk 0 0) s m [.ref a0, .int y1].toArray below meth c H locs 0 0 (MQ below (th_Q D cT T (kd q) (th_RG y1 0 7) []) [.ref a0, .int y1].toArray s 0 0 (th_A T [])) (F0 m 19 ls []) := by
    intro H locs ls hH hS hl
    refine lv_iconst (v := 0) hx hb dX10_isPlace_19 (by decide) ?_
    exact J20_s0_0 H locs ls  hH hS (lv_sub hl [] rfl)
  have J0 : ∀ (H : Heap) (locs : List Loc) (ls : Array Slot), th_H D cT T (kd q) H → va_S (th_A T []) s.heap H locs → lv_has ls 2 [(0, .ref a0), (1, .int y1)] → W p l e (rmk 0 0) s m [.ref a0, .int y1].toArray below meth c H locs 0 0 (MQ below (th_Q D cT T (kd q) (th_RG y1 0 7) []) [.ref a0, .int y1].toArray s 0 0 (th_A T [])) (F0 m 0 ls []) := by
    intro H locs ls hH hS hl
    refine lv_iload_n hx hb dX10_isPlace_0 rfl (lv_at hl 1 rfl) ?_
    refine lv_if_lt (tgt := 19) hx hb dX10_isPlace_1 (by decide) (fun c1 => ?_) (fun c1 => ?_)
    · skip
      have ir2 : IV y1 (-2147483648) (-1) := iv_uL j1 (iv_c (by decide) : IV 0 0 0) (iv_lt c1) (by decide)
      exact J19 H locs ls  hH hS (lv_sub hl [] rfl)
    · skip
      have ir3 : IV y1 0 2147483647 := iv_vR (iv_c (by decide) : IV 0 0 0) j1 (iv_nlt c1) (by decide)
      refine lv_iload_n hx hb dX10_isPlace_4 rfl (lv_at hl 1 rfl) ?_
      refine lv_aload_n hx hb dX10_isPlace_5 rfl (lv_at hl 0 rfl) ?_
      refine th_get S hK hH inG10 t0 kd_0 rfl 2 (by decide) gm_507 rfl rfl dX10_isPlace_6 (fun v4 hv4 fv4 => ?_)
      obtain ⟨rf5, rfl, trf5⟩ := th_V.ref hv4
      refine th_get S hK hH inG4 trf5 kd_3 rfl 13 (by decide) gm_287 rfl rfl dX10_isPlace_9 (fun v6 hv6 fv6 => ?_)
      obtain ⟨x7, rfl, ix7⟩ := th_V.int hv6
      refine lv_icmp_ge (tgt := 19) hx hb dX10_isPlace_12 (by decide) (fun c8 => ?_) (fun c8 => ?_)
      · skip
        exact J19 H locs ls  hH hS (lv_sub hl [] rfl)
      · skip
        have ir9 : IV y1 0 7 := iv_uL ir3 ix7 (iv_nle c8) (by decide)
        have ir10 : IV x7 1 8 := iv_uR ir3 ix7 (iv_nle c8) (by decide)
        refine lv_iconst (v := 1) hx hb dX10_isPlace_15 (by decide) ?_
        refine lv_goto (tgt := 20) hx hb dX10_isPlace_16 (by decide) ?_
        exact J20_s0_1 H locs ls ir9 hH hS (lv_sub hl [] rfl)
  exact J0 s.heap [] ls hH va_S.rf hl
