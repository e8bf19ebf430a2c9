theorem dX11_exchange_0 : decode cX11_exchange 0 = .ok (.iconst 0, 1) := by decide +kernel
theorem dX11_exchange_1 : decode cX11_exchange 1 = .ok (.istore_n 1, 1) := by decide +kernel
theorem dX11_exchange_2 : decode cX11_exchange 2 = .ok (.iload_n 1, 1) := by decide +kernel
theorem dX11_exchange_3 : decode cX11_exchange 3 = .ok (.bipush 43, 2) := by decide +kernel
theorem dX11_exchange_5 : decode cX11_exchange 5 = .ok (.if_icmp .ge 51, 3) := by decide +kernel
theorem dX11_exchange_8 : decode cX11_exchange 8 = .ok (.aload_n 0, 1) := by decide +kernel
theorem dX11_exchange_9 : decode cX11_exchange 9 = .ok (.getfield 116, 3) := by decide +kernel
theorem dX11_exchange_12 : decode cX11_exchange 12 = .ok (.bipush 43, 2) := by decide +kernel
theorem dX11_exchange_14 : decode cX11_exchange 14 = .ok (.aload_n 0, 1) := by decide +kernel
theorem dX11_exchange_15 : decode cX11_exchange 15 = .ok (.getfield 395, 3) := by decide +kernel
theorem dX11_exchange_18 : decode cX11_exchange 18 = .ok (.imul, 1) := by decide +kernel
theorem dX11_exchange_19 : decode cX11_exchange 19 = .ok (.iload_n 1, 1) := by decide +kernel
theorem dX11_exchange_20 : decode cX11_exchange 20 = .ok (.iadd, 1) := by decide +kernel
theorem dX11_exchange_21 : decode cX11_exchange 21 = .ok (.iaload, 1) := by decide +kernel
theorem dX11_exchange_22 : decode cX11_exchange 22 = .ok (.istore_n 2, 1) := by decide +kernel
theorem dX11_exchange_23 : decode cX11_exchange 23 = .ok (.aload_n 0, 1) := by decide +kernel
theorem dX11_exchange_24 : decode cX11_exchange 24 = .ok (.getfield 116, 3) := by decide +kernel
theorem dX11_exchange_27 : decode cX11_exchange 27 = .ok (.bipush 43, 2) := by decide +kernel
theorem dX11_exchange_29 : decode cX11_exchange 29 = .ok (.aload_n 0, 1) := by decide +kernel
theorem dX11_exchange_30 : decode cX11_exchange 30 = .ok (.getfield 395, 3) := by decide +kernel
theorem dX11_exchange_33 : decode cX11_exchange 33 = .ok (.imul, 1) := by decide +kernel
theorem dX11_exchange_34 : decode cX11_exchange 34 = .ok (.iload_n 1, 1) := by decide +kernel
theorem dX11_exchange_35 : decode cX11_exchange 35 = .ok (.iadd, 1) := by decide +kernel
theorem dX11_exchange_36 : decode cX11_exchange 36 = .ok (.aload_n 0, 1) := by decide +kernel
theorem dX11_exchange_37 : decode cX11_exchange 37 = .ok (.getfield 113, 3) := by decide +kernel
theorem dX11_exchange_40 : decode cX11_exchange 40 = .ok (.iload_n 1, 1) := by decide +kernel
theorem dX11_exchange_41 : decode cX11_exchange 41 = .ok (.iaload, 1) := by decide +kernel
theorem dX11_exchange_42 : decode cX11_exchange 42 = .ok (.iastore, 1) := by decide +kernel
theorem dX11_exchange_43 : decode cX11_exchange 43 = .ok (.aload_n 0, 1) := by decide +kernel
theorem dX11_exchange_44 : decode cX11_exchange 44 = .ok (.getfield 113, 3) := by decide +kernel
theorem dX11_exchange_47 : decode cX11_exchange 47 = .ok (.iload_n 1, 1) := by decide +kernel
theorem dX11_exchange_48 : decode cX11_exchange 48 = .ok (.iload_n 2, 1) := by decide +kernel
theorem dX11_exchange_49 : decode cX11_exchange 49 = .ok (.iastore, 1) := by decide +kernel
theorem dX11_exchange_50 : decode cX11_exchange 50 = .ok (.iinc 1 1, 3) := by decide +kernel
theorem dX11_exchange_53 : decode cX11_exchange 53 = .ok (.goto (-51), 3) := by decide +kernel
theorem dX11_exchange_56 : decode cX11_exchange 56 = .ok (.return_, 1) := by decide +kernel
theorem dX11_give_0 : decode cX11_give 0 = .ok (.aload_n 0, 1) := by decide +kernel
theorem dX11_give_1 : decode cX11_give 1 = .ok (.iload_n 1, 1) := by decide +kernel
theorem dX11_give_2 : decode cX11_give 2 = .ok (.invokevirtual 440, 3) := by decide +kernel
theorem dX11_give_5 : decode cX11_give 5 = .ok (.ifCond .eq 27, 3) := by decide +kernel
theorem dX11_give_8 : decode cX11_give 8 = .ok (.aload_n 0, 1) := by decide +kernel
theorem dX11_give_9 : decode cX11_give 9 = .ok (.iload_n 2, 1) := by decide +kernel
theorem dX11_give_10 : decode cX11_give 10 = .ok (.invokevirtual 437, 3) := by decide +kernel
theorem dX11_give_13 : decode cX11_give 13 = .ok (.ifCond .eq 19, 3) := by decide +kernel
theorem dX11_give_16 : decode cX11_give 16 = .ok (.iload_n 3, 1) := by decide +kernel
theorem dX11_give_17 : decode cX11_give 17 = .ok (.iconst 1, 1) := by decide +kernel
theorem dX11_give_18 : decode cX11_give 18 = .ok (.aload_n 0, 1) := by decide +kernel
theorem dX11_give_19 : decode cX11_give 19 = .ok (.getfield 113, 3) := by decide +kernel
theorem dX11_give_22 : decode cX11_give 22 = .ok (.iconst 0, 1) := by decide +kernel
theorem dX11_give_23 : decode cX11_give 23 = .ok (.iload_n 2, 1) := by decide +kernel
theorem dX11_give_24 : decode cX11_give 24 = .ok (.iadd, 1) := by decide +kernel
theorem dX11_give_25 : decode cX11_give 25 = .ok (.iaload, 1) := by decide +kernel
theorem dX11_give_26 : decode cX11_give 26 = .ok (.invokestatic 387, 3) := by decide +kernel
theorem dX11_give_29 : decode cX11_give 29 = .ok (.ifCond .ne 5, 3) := by decide +kernel
theorem dX11_give_32 : decode cX11_give 32 = .ok (.iconst (-1), 1) := by decide +kernel
theorem dX11_give_33 : decode cX11_give 33 = .ok (.ireturn, 1) := by decide +kernel
theorem dX11_give_34 : decode cX11_give 34 = .ok (.aload_n 0, 1) := by decide +kernel
theorem dX11_give_35 : decode cX11_give 35 = .ok (.invokevirtual 450, 3) := by decide +kernel
theorem dX11_give_38 : decode cX11_give 38 = .ok (.aload_n 0, 1) := by decide +kernel
theorem dX11_give_39 : decode cX11_give 39 = .ok (.getfield 113, 3) := by decide +kernel
theorem dX11_give_42 : decode cX11_give 42 = .ok (.iconst 0, 1) := by decide +kernel
theorem dX11_give_43 : decode cX11_give 43 = .ok (.iload_n 2, 1) := by decide +kernel
theorem dX11_give_44 : decode cX11_give 44 = .ok (.iadd, 1) := by decide +kernel
theorem dX11_give_45 : decode cX11_give 45 = .ok (.dup2, 1) := by decide +kernel
theorem dX11_give_46 : decode cX11_give 46 = .ok (.iaload, 1) := by decide +kernel
theorem dX11_give_47 : decode cX11_give 47 = .ok (.iload_n 3, 1) := by decide +kernel
theorem dX11_give_48 : decode cX11_give 48 = .ok (.isub, 1) := by decide +kernel
theorem dX11_give_49 : decode cX11_give 49 = .ok (.iastore, 1) := by decide +kernel
theorem dX11_give_50 : decode cX11_give 50 = .ok (.aload_n 0, 1) := by decide +kernel
theorem dX11_give_51 : decode cX11_give 51 = .ok (.getfield 113, 3) := by decide +kernel
theorem dX11_give_54 : decode cX11_give 54 = .ok (.iconst 3, 1) := by decide +kernel
theorem dX11_give_55 : decode cX11_give 55 = .ok (.iconst 3, 1) := by decide +kernel
theorem dX11_give_56 : decode cX11_give 56 = .ok (.iload_n 1, 1) := by decide +kernel
theorem dX11_give_57 : decode cX11_give 57 = .ok (.imul, 1) := by decide +kernel
theorem dX11_give_58 : decode cX11_give 58 = .ok (.iadd, 1) := by decide +kernel
theorem dX11_give_59 : decode cX11_give 59 = .ok (.iload_n 2, 1) := by decide +kernel
theorem dX11_give_60 : decode cX11_give 60 = .ok (.iadd, 1) := by decide +kernel
theorem dX11_give_61 : decode cX11_give 61 = .ok (.dup2, 1) := by decide +kernel
theorem dX11_give_62 : decode cX11_give 62 = .ok (.iaload, 1) := by decide +kernel
theorem dX11_give_63 : decode cX11_give 63 = .ok (.iload_n 3, 1) := by decide +kernel
theorem dX11_give_64 : decode cX11_give 64 = .ok (.iadd, 1) := by decide +kernel
theorem dX11_give_65 : decode cX11_give 65 = .ok (.iastore, 1) := by decide +kernel
theorem dX11_give_66 : decode cX11_give 66 = .ok (.aload_n 0, 1) := by decide +kernel
theorem dX11_give_67 : decode cX11_give 67 = .ok (.getfield 113, 3) := by decide +kernel
theorem dX11_give_70 : decode cX11_give 70 = .ok (.iconst 0, 1) := by decide +kernel
theorem dX11_give_71 : decode cX11_give 71 = .ok (.iload_n 2, 1) := by decide +kernel
theorem dX11_give_72 : decode cX11_give 72 = .ok (.iadd, 1) := by decide +kernel
theorem dX11_give_73 : decode cX11_give 73 = .ok (.iaload, 1) := by decide +kernel
theorem dX11_give_74 : decode cX11_give 74 = .ok (.ireturn, 1) := by decide +kernel
theorem dX11_fold_0 : decode cX11_fold 0 = .ok (.aload_n 0, 1) := by decide +kernel
theorem dX11_fold_1 : decode cX11_fold 1 = .ok (.iload_n 1, 1) := by decide +kernel
theorem dX11_fold_2 : decode cX11_fold 2 = .ok (.invokevirtual 440, 3) := by decide +kernel
theorem dX11_fold_5 : decode cX11_fold 5 = .ok (.ifCond .ne 5, 3) := by decide +kernel
theorem dX11_fold_8 : decode cX11_fold 8 = .ok (.iconst (-1), 1) := by decide +kernel
theorem dX11_fold_9 : decode cX11_fold 9 = .ok (.ireturn, 1) := by decide +kernel
theorem dX11_fold_10 : decode cX11_fold 10 = .ok (.aload_n 0, 1) := by decide +kernel
theorem dX11_fold_11 : decode cX11_fold 11 = .ok (.invokevirtual 450, 3) := by decide +kernel
theorem dX11_fold_14 : decode cX11_fold 14 = .ok (.aload_n 0, 1) := by decide +kernel
theorem dX11_fold_15 : decode cX11_fold 15 = .ok (.getfield 113, 3) := by decide +kernel
theorem dX11_fold_18 : decode cX11_fold 18 = .ok (.bipush 39, 2) := by decide +kernel
theorem dX11_fold_20 : decode cX11_fold 20 = .ok (.dup2, 1) := by decide +kernel
theorem dX11_fold_21 : decode cX11_fold 21 = .ok (.iaload, 1) := by decide +kernel
theorem dX11_fold_22 : decode cX11_fold 22 = .ok (.iconst 1, 1) := by decide +kernel
theorem dX11_fold_23 : decode cX11_fold 23 = .ok (.iload_n 1, 1) := by decide +kernel
theorem dX11_fold_24 : decode cX11_fold 24 = .ok (.ishl, 1) := by decide +kernel
theorem dX11_fold_25 : decode cX11_fold 25 = .ok (.ixor, 1) := by decide +kernel
theorem dX11_fold_26 : decode cX11_fold 26 = .ok (.iastore, 1) := by decide +kernel
theorem dX11_fold_27 : decode cX11_fold 27 = .ok (.aload_n 0, 1) := by decide +kernel
theorem dX11_fold_28 : decode cX11_fold 28 = .ok (.getfield 113, 3) := by decide +kernel
theorem dX11_fold_31 : decode cX11_fold 31 = .ok (.bipush 39, 2) := by decide +kernel
theorem dX11_fold_33 : decode cX11_fold 33 = .ok (.iaload, 1) := by decide +kernel
theorem dX11_fold_34 : decode cX11_fold 34 = .ok (.iload_n 1, 1) := by decide +kernel
theorem dX11_fold_35 : decode cX11_fold 35 = .ok (.ishr, 1) := by decide +kernel
theorem dX11_fold_36 : decode cX11_fold 36 = .ok (.iconst 1, 1) := by decide +kernel
theorem dX11_fold_37 : decode cX11_fold 37 = .ok (.iand, 1) := by decide +kernel
theorem dX11_fold_38 : decode cX11_fold 38 = .ok (.ireturn, 1) := by decide +kernel
theorem dX11_put_0 : decode cX11_put 0 = .ok (.aload_n 0, 1) := by decide +kernel
theorem dX11_put_1 : decode cX11_put 1 = .ok (.iload_n 1, 1) := by decide +kernel
theorem dX11_put_2 : decode cX11_put 2 = .ok (.invokevirtual 440, 3) := by decide +kernel
theorem dX11_put_5 : decode cX11_put 5 = .ok (.ifCond .eq 12, 3) := by decide +kernel
theorem dX11_put_8 : decode cX11_put 8 = .ok (.iload_n 2, 1) := by decide +kernel
theorem dX11_put_9 : decode cX11_put 9 = .ok (.iconst 0, 1) := by decide +kernel
theorem dX11_put_10 : decode cX11_put 10 = .ok (.iconst 3, 1) := by decide +kernel
theorem dX11_put_11 : decode cX11_put 11 = .ok (.invokestatic 387, 3) := by decide +kernel
theorem dX11_put_14 : decode cX11_put 14 = .ok (.ifCond .ne 5, 3) := by decide +kernel
theorem dX11_put_17 : decode cX11_put 17 = .ok (.iconst (-1), 1) := by decide +kernel
theorem dX11_put_18 : decode cX11_put 18 = .ok (.ireturn, 1) := by decide +kernel
theorem dX11_put_19 : decode cX11_put 19 = .ok (.aload_n 0, 1) := by decide +kernel
theorem dX11_put_20 : decode cX11_put 20 = .ok (.invokevirtual 450, 3) := by decide +kernel
theorem dX11_put_23 : decode cX11_put 23 = .ok (.aload_n 0, 1) := by decide +kernel
theorem dX11_put_24 : decode cX11_put 24 = .ok (.getfield 113, 3) := by decide +kernel
theorem dX11_put_27 : decode cX11_put 27 = .ok (.bipush 35, 2) := by decide +kernel
theorem dX11_put_29 : decode cX11_put 29 = .ok (.iload_n 1, 1) := by decide +kernel
theorem dX11_put_30 : decode cX11_put 30 = .ok (.iadd, 1) := by decide +kernel
theorem dX11_put_31 : decode cX11_put 31 = .ok (.iaload, 1) := by decide +kernel
theorem dX11_put_32 : decode cX11_put 32 = .ok (.istore_n 3, 1) := by decide +kernel
theorem dX11_put_33 : decode cX11_put 33 = .ok (.aload_n 0, 1) := by decide +kernel
theorem dX11_put_34 : decode cX11_put 34 = .ok (.getfield 113, 3) := by decide +kernel
theorem dX11_put_37 : decode cX11_put 37 = .ok (.bipush 35, 2) := by decide +kernel
theorem dX11_put_39 : decode cX11_put 39 = .ok (.iload_n 1, 1) := by decide +kernel
theorem dX11_put_40 : decode cX11_put 40 = .ok (.iadd, 1) := by decide +kernel
theorem dX11_put_41 : decode cX11_put 41 = .ok (.iload_n 2, 1) := by decide +kernel
theorem dX11_put_42 : decode cX11_put 42 = .ok (.iastore, 1) := by decide +kernel
theorem dX11_put_43 : decode cX11_put 43 = .ok (.iload_n 3, 1) := by decide +kernel
theorem dX11_put_44 : decode cX11_put 44 = .ok (.ireturn, 1) := by decide +kernel
theorem dX11_keepNow_0 : decode cX11_keepNow 0 = .ok (.iconst 0, 1) := by decide +kernel
theorem dX11_keepNow_1 : decode cX11_keepNow 1 = .ok (.istore_n 1, 1) := by decide +kernel
theorem dX11_keepNow_2 : decode cX11_keepNow 2 = .ok (.iload_n 1, 1) := by decide +kernel
theorem dX11_keepNow_3 : decode cX11_keepNow 3 = .ok (.bipush 43, 2) := by decide +kernel
theorem dX11_keepNow_5 : decode cX11_keepNow 5 = .ok (.if_icmp .ge 21, 3) := by decide +kernel
theorem dX11_keepNow_8 : decode cX11_keepNow 8 = .ok (.aload_n 0, 1) := by decide +kernel
theorem dX11_keepNow_9 : decode cX11_keepNow 9 = .ok (.getfield 119, 3) := by decide +kernel
theorem dX11_keepNow_12 : decode cX11_keepNow 12 = .ok (.iload_n 1, 1) := by decide +kernel
theorem dX11_keepNow_13 : decode cX11_keepNow 13 = .ok (.aload_n 0, 1) := by decide +kernel
theorem dX11_keepNow_14 : decode cX11_keepNow 14 = .ok (.getfield 113, 3) := by decide +kernel
theorem dX11_keepNow_17 : decode cX11_keepNow 17 = .ok (.iload_n 1, 1) := by decide +kernel
theorem dX11_keepNow_18 : decode cX11_keepNow 18 = .ok (.iaload, 1) := by decide +kernel
theorem dX11_keepNow_19 : decode cX11_keepNow 19 = .ok (.iastore, 1) := by decide +kernel
theorem dX11_keepNow_20 : decode cX11_keepNow 20 = .ok (.iinc 1 1, 3) := by decide +kernel
theorem dX11_keepNow_23 : decode cX11_keepNow 23 = .ok (.goto (-21), 3) := by decide +kernel
theorem dX11_keepNow_26 : decode cX11_keepNow 26 = .ok (.return_, 1) := by decide +kernel
theorem dX11_smaller_0 : decode cX11_smaller 0 = .ok (.iconst 0, 1) := by decide +kernel
theorem dX11_smaller_1 : decode cX11_smaller 1 = .ok (.istore_n 1, 1) := by decide +kernel
theorem dX11_smaller_2 : decode cX11_smaller 2 = .ok (.iconst 0, 1) := by decide +kernel
theorem dX11_smaller_3 : decode cX11_smaller 3 = .ok (.istore_n 2, 1) := by decide +kernel
theorem dX11_smaller_4 : decode cX11_smaller 4 = .ok (.iload_n 2, 1) := by decide +kernel
theorem dX11_smaller_5 : decode cX11_smaller 5 = .ok (.aload_n 0, 1) := by decide +kernel
theorem dX11_smaller_6 : decode cX11_smaller 6 = .ok (.getfield 27, 3) := by decide +kernel
theorem dX11_smaller_9 : decode cX11_smaller 9 = .ok (.aload_n 0, 1) := by decide +kernel
theorem dX11_smaller_10 : decode cX11_smaller 10 = .ok (.getfield 273, 3) := by decide +kernel
theorem dX11_smaller_13 : decode cX11_smaller 13 = .ok (.iaload, 1) := by decide +kernel
theorem dX11_smaller_14 : decode cX11_smaller 14 = .ok (.if_icmp .ge 36, 3) := by decide +kernel
theorem dX11_smaller_17 : decode cX11_smaller 17 = .ok (.aload_n 0, 1) := by decide +kernel
theorem dX11_smaller_18 : decode cX11_smaller 18 = .ok (.getfield 113, 3) := by decide +kernel
theorem dX11_smaller_21 : decode cX11_smaller 21 = .ok (.bipush 15, 2) := by decide +kernel
theorem dX11_smaller_23 : decode cX11_smaller 23 = .ok (.iload_n 2, 1) := by decide +kernel
theorem dX11_smaller_24 : decode cX11_smaller 24 = .ok (.iadd, 1) := by decide +kernel
theorem dX11_smaller_25 : decode cX11_smaller 25 = .ok (.iaload, 1) := by decide +kernel
theorem dX11_smaller_26 : decode cX11_smaller 26 = .ok (.aload_n 0, 1) := by decide +kernel
theorem dX11_smaller_27 : decode cX11_smaller 27 = .ok (.getfield 119, 3) := by decide +kernel
theorem dX11_smaller_30 : decode cX11_smaller 30 = .ok (.bipush 15, 2) := by decide +kernel
theorem dX11_smaller_32 : decode cX11_smaller 32 = .ok (.iload_n 2, 1) := by decide +kernel
theorem dX11_smaller_33 : decode cX11_smaller 33 = .ok (.iadd, 1) := by decide +kernel
theorem dX11_smaller_34 : decode cX11_smaller 34 = .ok (.iaload, 1) := by decide +kernel
theorem dX11_smaller_35 : decode cX11_smaller 35 = .ok (.if_icmp .ge 9, 3) := by decide +kernel
theorem dX11_smaller_38 : decode cX11_smaller 38 = .ok (.iload_n 1, 1) := by decide +kernel
theorem dX11_smaller_39 : decode cX11_smaller 39 = .ok (.iconst 1, 1) := by decide +kernel
theorem dX11_smaller_40 : decode cX11_smaller 40 = .ok (.iload_n 2, 1) := by decide +kernel
theorem dX11_smaller_41 : decode cX11_smaller 41 = .ok (.ishl, 1) := by decide +kernel
theorem dX11_smaller_42 : decode cX11_smaller 42 = .ok (.ior, 1) := by decide +kernel
theorem dX11_smaller_43 : decode cX11_smaller 43 = .ok (.istore_n 1, 1) := by decide +kernel
theorem dX11_smaller_44 : decode cX11_smaller 44 = .ok (.iinc 2 1, 3) := by decide +kernel
theorem dX11_smaller_47 : decode cX11_smaller 47 = .ok (.goto (-43), 3) := by decide +kernel
theorem dX11_smaller_50 : decode cX11_smaller 50 = .ok (.iload_n 1, 1) := by decide +kernel
theorem dX11_smaller_51 : decode cX11_smaller 51 = .ok (.ireturn, 1) := by decide +kernel
theorem dX11_year_0 : decode cX11_year 0 = .ok (.aload_n 0, 1) := by decide +kernel
theorem dX11_year_1 : decode cX11_year 1 = .ok (.getfield 113, 3) := by decide +kernel
theorem dX11_year_4 : decode cX11_year 4 = .ok (.bipush 40, 2) := by decide +kernel
theorem dX11_year_6 : decode cX11_year 6 = .ok (.iaload, 1) := by decide +kernel
theorem dX11_year_7 : decode cX11_year 7 = .ok (.sipush 999, 3) := by decide +kernel
theorem dX11_year_10 : decode cX11_year 10 = .ok (.if_icmp .ne 5, 3) := by decide +kernel
theorem dX11_year_13 : decode cX11_year 13 = .ok (.iconst (-1), 1) := by decide +kernel
theorem dX11_year_14 : decode cX11_year 14 = .ok (.ireturn, 1) := by decide +kernel
theorem dX11_year_15 : decode cX11_year 15 = .ok (.aload_n 0, 1) := by decide +kernel
theorem dX11_year_16 : decode cX11_year 16 = .ok (.invokevirtual 450, 3) := by decide +kernel
theorem dX11_year_19 : decode cX11_year 19 = .ok (.aload_n 0, 1) := by decide +kernel
theorem dX11_year_20 : decode cX11_year 20 = .ok (.invokevirtual 453, 3) := by decide +kernel
theorem dX11_year_23 : decode cX11_year 23 = .ok (.aload_n 0, 1) := by decide +kernel
theorem dX11_year_24 : decode cX11_year 24 = .ok (.invokevirtual 456, 3) := by decide +kernel
theorem dX11_year_27 : decode cX11_year 27 = .ok (.aload_n 0, 1) := by decide +kernel
theorem dX11_year_28 : decode cX11_year 28 = .ok (.invokevirtual 459, 3) := by decide +kernel
theorem dX11_year_31 : decode cX11_year 31 = .ok (.invokestatic 462, 3) := by decide +kernel
theorem dX11_year_34 : decode cX11_year 34 = .ok (.ireturn, 1) := by decide +kernel
theorem dX11_undo_0 : decode cX11_undo 0 = .ok (.aload_n 0, 1) := by decide +kernel
theorem dX11_undo_1 : decode cX11_undo 1 = .ok (.getfield 395, 3) := by decide +kernel
theorem dX11_undo_4 : decode cX11_undo 4 = .ok (.ifCond .ne 5, 3) := by decide +kernel
theorem dX11_undo_7 : decode cX11_undo 7 = .ok (.iconst 0, 1) := by decide +kernel
theorem dX11_undo_8 : decode cX11_undo 8 = .ok (.ireturn, 1) := by decide +kernel
theorem dX11_undo_9 : decode cX11_undo 9 = .ok (.aload_n 0, 1) := by decide +kernel
theorem dX11_undo_10 : decode cX11_undo 10 = .ok (.dup, 1) := by decide +kernel
theorem dX11_undo_11 : decode cX11_undo 11 = .ok (.getfield 395, 3) := by decide +kernel
theorem dX11_undo_14 : decode cX11_undo 14 = .ok (.iconst 1, 1) := by decide +kernel
theorem dX11_undo_15 : decode cX11_undo 15 = .ok (.isub, 1) := by decide +kernel
theorem dX11_undo_16 : decode cX11_undo 16 = .ok (.putfield 395, 3) := by decide +kernel
theorem dX11_undo_19 : decode cX11_undo 19 = .ok (.aload_n 0, 1) := by decide +kernel
theorem dX11_undo_20 : decode cX11_undo 20 = .ok (.dup, 1) := by decide +kernel
theorem dX11_undo_21 : decode cX11_undo 21 = .ok (.getfield 398, 3) := by decide +kernel
theorem dX11_undo_24 : decode cX11_undo 24 = .ok (.iconst 1, 1) := by decide +kernel
theorem dX11_undo_25 : decode cX11_undo 25 = .ok (.iadd, 1) := by decide +kernel
theorem dX11_undo_26 : decode cX11_undo 26 = .ok (.putfield 398, 3) := by decide +kernel
theorem dX11_undo_29 : decode cX11_undo 29 = .ok (.aload_n 0, 1) := by decide +kernel
theorem dX11_undo_30 : decode cX11_undo 30 = .ok (.invokevirtual 465, 3) := by decide +kernel
theorem dX11_undo_33 : decode cX11_undo 33 = .ok (.iconst 1, 1) := by decide +kernel
theorem dX11_undo_34 : decode cX11_undo 34 = .ok (.ireturn, 1) := by decide +kernel
theorem dX11_redo_0 : decode cX11_redo 0 = .ok (.aload_n 0, 1) := by decide +kernel
theorem dX11_redo_1 : decode cX11_redo 1 = .ok (.getfield 398, 3) := by decide +kernel
theorem dX11_redo_4 : decode cX11_redo 4 = .ok (.ifCond .ne 5, 3) := by decide +kernel
theorem dX11_redo_7 : decode cX11_redo 7 = .ok (.iconst 0, 1) := by decide +kernel
theorem dX11_redo_8 : decode cX11_redo 8 = .ok (.ireturn, 1) := by decide +kernel
theorem dX11_redo_9 : decode cX11_redo 9 = .ok (.aload_n 0, 1) := by decide +kernel
theorem dX11_redo_10 : decode cX11_redo 10 = .ok (.invokevirtual 465, 3) := by decide +kernel
theorem dX11_redo_13 : decode cX11_redo 13 = .ok (.aload_n 0, 1) := by decide +kernel
theorem dX11_redo_14 : decode cX11_redo 14 = .ok (.dup, 1) := by decide +kernel
theorem dX11_redo_15 : decode cX11_redo 15 = .ok (.getfield 395, 3) := by decide +kernel
theorem dX11_redo_18 : decode cX11_redo 18 = .ok (.iconst 1, 1) := by decide +kernel
theorem dX11_redo_19 : decode cX11_redo 19 = .ok (.iadd, 1) := by decide +kernel
theorem dX11_redo_20 : decode cX11_redo 20 = .ok (.putfield 395, 3) := by decide +kernel
theorem dX11_redo_23 : decode cX11_redo 23 = .ok (.aload_n 0, 1) := by decide +kernel
theorem dX11_redo_24 : decode cX11_redo 24 = .ok (.dup, 1) := by decide +kernel
theorem dX11_redo_25 : decode cX11_redo 25 = .ok (.getfield 398, 3) := by decide +kernel
theorem dX11_redo_28 : decode cX11_redo 28 = .ok (.iconst 1, 1) := by decide +kernel
theorem dX11_redo_29 : decode cX11_redo 29 = .ok (.isub, 1) := by decide +kernel
theorem dX11_redo_30 : decode cX11_redo 30 = .ok (.putfield 398, 3) := by decide +kernel
theorem dX11_redo_33 : decode cX11_redo 33 = .ok (.iconst 1, 1) := by decide +kernel
theorem dX11_redo_34 : decode cX11_redo 34 = .ok (.ireturn, 1) := by decide +kernel
theorem dX11_bringBack_0 : decode cX11_bringBack 0 = .ok (.iconst 0, 1) := by decide +kernel
theorem dX11_bringBack_1 : decode cX11_bringBack 1 = .ok (.istore_n 1, 1) := by decide +kernel
theorem dX11_bringBack_2 : decode cX11_bringBack 2 = .ok (.iload_n 1, 1) := by decide +kernel
theorem dX11_bringBack_3 : decode cX11_bringBack 3 = .ok (.bipush 43, 2) := by decide +kernel
theorem dX11_bringBack_5 : decode cX11_bringBack 5 = .ok (.if_icmp .ge 21, 3) := by decide +kernel
theorem dX11_bringBack_8 : decode cX11_bringBack 8 = .ok (.aload_n 0, 1) := by decide +kernel
theorem dX11_bringBack_9 : decode cX11_bringBack 9 = .ok (.getfield 113, 3) := by decide +kernel
theorem dX11_bringBack_12 : decode cX11_bringBack 12 = .ok (.iload_n 1, 1) := by decide +kernel
theorem dX11_bringBack_13 : decode cX11_bringBack 13 = .ok (.aload_n 0, 1) := by decide +kernel
theorem dX11_bringBack_14 : decode cX11_bringBack 14 = .ok (.getfield 119, 3) := by decide +kernel
theorem dX11_bringBack_17 : decode cX11_bringBack 17 = .ok (.iload_n 1, 1) := by decide +kernel
theorem dX11_bringBack_18 : decode cX11_bringBack 18 = .ok (.iaload, 1) := by decide +kernel
theorem dX11_bringBack_19 : decode cX11_bringBack 19 = .ok (.iastore, 1) := by decide +kernel
theorem dX11_bringBack_20 : decode cX11_bringBack 20 = .ok (.iinc 1 1, 3) := by decide +kernel
theorem dX11_bringBack_23 : decode cX11_bringBack 23 = .ok (.goto (-21), 3) := by decide +kernel
theorem dX11_bringBack_26 : decode cX11_bringBack 26 = .ok (.return_, 1) := by decide +kernel
theorem dX11_lost_0 : decode cX11_lost 0 = .ok (.iconst 0, 1) := by decide +kernel
theorem dX11_lost_1 : decode cX11_lost 1 = .ok (.istore_n 1, 1) := by decide +kernel
theorem dX11_lost_2 : decode cX11_lost 2 = .ok (.iconst 0, 1) := by decide +kernel
theorem dX11_lost_3 : decode cX11_lost 3 = .ok (.istore_n 2, 1) := by decide +kernel
theorem dX11_lost_4 : decode cX11_lost 4 = .ok (.iload_n 2, 1) := by decide +kernel
theorem dX11_lost_5 : decode cX11_lost 5 = .ok (.aload_n 0, 1) := by decide +kernel
theorem dX11_lost_6 : decode cX11_lost 6 = .ok (.getfield 27, 3) := by decide +kernel
theorem dX11_lost_9 : decode cX11_lost 9 = .ok (.aload_n 0, 1) := by decide +kernel
theorem dX11_lost_10 : decode cX11_lost 10 = .ok (.getfield 273, 3) := by decide +kernel
theorem dX11_lost_13 : decode cX11_lost 13 = .ok (.iaload, 1) := by decide +kernel
theorem dX11_lost_14 : decode cX11_lost 14 = .ok (.if_icmp .ge 39, 3) := by decide +kernel
theorem dX11_lost_17 : decode cX11_lost 17 = .ok (.aload_n 0, 1) := by decide +kernel
theorem dX11_lost_18 : decode cX11_lost 18 = .ok (.getfield 113, 3) := by decide +kernel
theorem dX11_lost_21 : decode cX11_lost 21 = .ok (.bipush 15, 2) := by decide +kernel
theorem dX11_lost_23 : decode cX11_lost 23 = .ok (.iload_n 2, 1) := by decide +kernel
theorem dX11_lost_24 : decode cX11_lost 24 = .ok (.iadd, 1) := by decide +kernel
theorem dX11_lost_25 : decode cX11_lost 25 = .ok (.iaload, 1) := by decide +kernel
theorem dX11_lost_26 : decode cX11_lost 26 = .ok (.ifCond .ne 21, 3) := by decide +kernel
theorem dX11_lost_29 : decode cX11_lost 29 = .ok (.aload_n 0, 1) := by decide +kernel
theorem dX11_lost_30 : decode cX11_lost 30 = .ok (.getfield 119, 3) := by decide +kernel
theorem dX11_lost_33 : decode cX11_lost 33 = .ok (.bipush 15, 2) := by decide +kernel
theorem dX11_lost_35 : decode cX11_lost 35 = .ok (.iload_n 2, 1) := by decide +kernel
theorem dX11_lost_36 : decode cX11_lost 36 = .ok (.iadd, 1) := by decide +kernel
theorem dX11_lost_37 : decode cX11_lost 37 = .ok (.iaload, 1) := by decide +kernel
theorem dX11_lost_38 : decode cX11_lost 38 = .ok (.ifCond .le 9, 3) := by decide +kernel
theorem dX11_lost_41 : decode cX11_lost 41 = .ok (.iload_n 1, 1) := by decide +kernel
theorem dX11_lost_42 : decode cX11_lost 42 = .ok (.iconst 1, 1) := by decide +kernel
theorem dX11_lost_43 : decode cX11_lost 43 = .ok (.iload_n 2, 1) := by decide +kernel
theorem dX11_lost_44 : decode cX11_lost 44 = .ok (.ishl, 1) := by decide +kernel
theorem dX11_lost_45 : decode cX11_lost 45 = .ok (.ior, 1) := by decide +kernel
theorem dX11_lost_46 : decode cX11_lost 46 = .ok (.istore_n 1, 1) := by decide +kernel
theorem dX11_lost_47 : decode cX11_lost 47 = .ok (.iinc 2 1, 3) := by decide +kernel
theorem dX11_lost_50 : decode cX11_lost 50 = .ok (.goto (-46), 3) := by decide +kernel
theorem dX11_lost_53 : decode cX11_lost 53 = .ok (.iload_n 1, 1) := by decide +kernel
theorem dX11_lost_54 : decode cX11_lost 54 = .ok (.ireturn, 1) := by decide +kernel
theorem dX11_landNow_0 : decode cX11_landNow 0 = .ok (.iconst 0, 1) := by decide +kernel
theorem dX11_landNow_1 : decode cX11_landNow 1 = .ok (.istore_n 1, 1) := by decide +kernel
theorem dX11_landNow_2 : decode cX11_landNow 2 = .ok (.iconst 0, 1) := by decide +kernel
theorem dX11_landNow_3 : decode cX11_landNow 3 = .ok (.istore_n 2, 1) := by decide +kernel
theorem dX11_landNow_4 : decode cX11_landNow 4 = .ok (.iload_n 2, 1) := by decide +kernel
theorem dX11_landNow_5 : decode cX11_landNow 5 = .ok (.aload_n 0, 1) := by decide +kernel
theorem dX11_landNow_6 : decode cX11_landNow 6 = .ok (.getfield 27, 3) := by decide +kernel
theorem dX11_landNow_9 : decode cX11_landNow 9 = .ok (.aload_n 0, 1) := by decide +kernel
theorem dX11_landNow_10 : decode cX11_landNow 10 = .ok (.getfield 273, 3) := by decide +kernel
theorem dX11_landNow_13 : decode cX11_landNow 13 = .ok (.iaload, 1) := by decide +kernel
theorem dX11_landNow_14 : decode cX11_landNow 14 = .ok (.if_icmp .ge 36, 3) := by decide +kernel
theorem dX11_landNow_17 : decode cX11_landNow 17 = .ok (.iload_n 1, 1) := by decide +kernel
theorem dX11_landNow_18 : decode cX11_landNow 18 = .ok (.aload_n 0, 1) := by decide +kernel
theorem dX11_landNow_19 : decode cX11_landNow 19 = .ok (.getfield 113, 3) := by decide +kernel
theorem dX11_landNow_22 : decode cX11_landNow 22 = .ok (.bipush 15, 2) := by decide +kernel
theorem dX11_landNow_24 : decode cX11_landNow 24 = .ok (.iload_n 2, 1) := by decide +kernel
theorem dX11_landNow_25 : decode cX11_landNow 25 = .ok (.iadd, 1) := by decide +kernel
theorem dX11_landNow_26 : decode cX11_landNow 26 = .ok (.iaload, 1) := by decide +kernel
theorem dX11_landNow_27 : decode cX11_landNow 27 = .ok (.aload_n 0, 1) := by decide +kernel
theorem dX11_landNow_28 : decode cX11_landNow 28 = .ok (.getfield 60, 3) := by decide +kernel
theorem dX11_landNow_31 : decode cX11_landNow 31 = .ok (.bipush 8, 2) := by decide +kernel
theorem dX11_landNow_33 : decode cX11_landNow 33 = .ok (.aload_n 0, 1) := by decide +kernel
theorem dX11_landNow_34 : decode cX11_landNow 34 = .ok (.getfield 273, 3) := by decide +kernel
theorem dX11_landNow_37 : decode cX11_landNow 37 = .ok (.imul, 1) := by decide +kernel
theorem dX11_landNow_38 : decode cX11_landNow 38 = .ok (.iload_n 2, 1) := by decide +kernel
theorem dX11_landNow_39 : decode cX11_landNow 39 = .ok (.iadd, 1) := by decide +kernel
theorem dX11_landNow_40 : decode cX11_landNow 40 = .ok (.iaload, 1) := by decide +kernel
theorem dX11_landNow_41 : decode cX11_landNow 41 = .ok (.imul, 1) := by decide +kernel
theorem dX11_landNow_42 : decode cX11_landNow 42 = .ok (.iadd, 1) := by decide +kernel
theorem dX11_landNow_43 : decode cX11_landNow 43 = .ok (.istore_n 1, 1) := by decide +kernel
theorem dX11_landNow_44 : decode cX11_landNow 44 = .ok (.iinc 2 1, 3) := by decide +kernel
theorem dX11_landNow_47 : decode cX11_landNow 47 = .ok (.goto (-43), 3) := by decide +kernel
theorem dX11_landNow_50 : decode cX11_landNow 50 = .ok (.iload_n 1, 1) := by decide +kernel
theorem dX11_landNow_51 : decode cX11_landNow 51 = .ok (.ireturn, 1) := by decide +kernel
theorem dX11_hungry_0 : decode cX11_hungry 0 = .ok (.iconst 0, 1) := by decide +kernel
theorem dX11_hungry_1 : decode cX11_hungry 1 = .ok (.istore_n 1, 1) := by decide +kernel
theorem dX11_hungry_2 : decode cX11_hungry 2 = .ok (.iconst 0, 1) := by decide +kernel
theorem dX11_hungry_3 : decode cX11_hungry 3 = .ok (.istore_n 2, 1) := by decide +kernel
theorem dX11_hungry_4 : decode cX11_hungry 4 = .ok (.iload_n 2, 1) := by decide +kernel
theorem dX11_hungry_5 : decode cX11_hungry 5 = .ok (.aload_n 0, 1) := by decide +kernel
theorem dX11_hungry_6 : decode cX11_hungry 6 = .ok (.invokevirtual 384, 3) := by decide +kernel
theorem dX11_hungry_9 : decode cX11_hungry 9 = .ok (.if_icmp .ge 28, 3) := by decide +kernel
theorem dX11_hungry_12 : decode cX11_hungry 12 = .ok (.aload_n 0, 1) := by decide +kernel
theorem dX11_hungry_13 : decode cX11_hungry 13 = .ok (.iload_n 2, 1) := by decide +kernel
theorem dX11_hungry_14 : decode cX11_hungry 14 = .ok (.invokevirtual 425, 3) := by decide +kernel
theorem dX11_hungry_17 : decode cX11_hungry 17 = .ok (.aload_n 0, 1) := by decide +kernel
theorem dX11_hungry_18 : decode cX11_hungry 18 = .ok (.iload_n 2, 1) := by decide +kernel
theorem dX11_hungry_19 : decode cX11_hungry 19 = .ok (.invokevirtual 422, 3) := by decide +kernel
theorem dX11_hungry_22 : decode cX11_hungry 22 = .ok (.if_icmp .ge 9, 3) := by decide +kernel
theorem dX11_hungry_25 : decode cX11_hungry 25 = .ok (.iload_n 1, 1) := by decide +kernel
theorem dX11_hungry_26 : decode cX11_hungry 26 = .ok (.iconst 1, 1) := by decide +kernel
theorem dX11_hungry_27 : decode cX11_hungry 27 = .ok (.iload_n 2, 1) := by decide +kernel
theorem dX11_hungry_28 : decode cX11_hungry 28 = .ok (.ishl, 1) := by decide +kernel
theorem dX11_hungry_29 : decode cX11_hungry 29 = .ok (.ior, 1) := by decide +kernel
theorem dX11_hungry_30 : decode cX11_hungry 30 = .ok (.istore_n 1, 1) := by decide +kernel
theorem dX11_hungry_31 : decode cX11_hungry 31 = .ok (.iinc 2 1, 3) := by decide +kernel
theorem dX11_hungry_34 : decode cX11_hungry 34 = .ok (.goto (-30), 3) := by decide +kernel
theorem dX11_hungry_37 : decode cX11_hungry 37 = .ok (.iload_n 1, 1) := by decide +kernel
theorem dX11_hungry_38 : decode cX11_hungry 38 = .ok (.ireturn, 1) := by decide +kernel
theorem dX11_needs_0 : decode cX11_needs 0 = .ok (.aload_n 0, 1) := by decide +kernel
theorem dX11_needs_1 : decode cX11_needs 1 = .ok (.iload_n 1, 1) := by decide +kernel
theorem dX11_needs_2 : decode cX11_needs 2 = .ok (.invokevirtual 440, 3) := by decide +kernel
theorem dX11_needs_5 : decode cX11_needs 5 = .ok (.ifCond .eq 11, 3) := by decide +kernel
theorem dX11_needs_8 : decode cX11_needs 8 = .ok (.aload_n 0, 1) := by decide +kernel
theorem dX11_needs_9 : decode cX11_needs 9 = .ok (.iload_n 2, 1) := by decide +kernel
theorem dX11_needs_10 : decode cX11_needs 10 = .ok (.invokevirtual 437, 3) := by decide +kernel
theorem dX11_needs_13 : decode cX11_needs 13 = .ok (.ifCond .ne 5, 3) := by decide +kernel
theorem dX11_needs_16 : decode cX11_needs 16 = .ok (.iconst (-1), 1) := by decide +kernel
theorem dX11_needs_17 : decode cX11_needs 17 = .ok (.ireturn, 1) := by decide +kernel
theorem dX11_needs_18 : decode cX11_needs 18 = .ok (.aload_n 0, 1) := by decide +kernel
theorem dX11_needs_19 : decode cX11_needs 19 = .ok (.iload_n 1, 1) := by decide +kernel
theorem dX11_needs_20 : decode cX11_needs 20 = .ok (.invokevirtual 422, 3) := by decide +kernel
theorem dX11_needs_23 : decode cX11_needs 23 = .ok (.aload_n 0, 1) := by decide +kernel
theorem dX11_needs_24 : decode cX11_needs 24 = .ok (.iload_n 1, 1) := by decide +kernel
theorem dX11_needs_25 : decode cX11_needs 25 = .ok (.invokevirtual 425, 3) := by decide +kernel
theorem dX11_needs_28 : decode cX11_needs 28 = .ok (.isub, 1) := by decide +kernel
theorem dX11_needs_29 : decode cX11_needs 29 = .ok (.istore_n 3, 1) := by decide +kernel
theorem dX11_needs_30 : decode cX11_needs 30 = .ok (.aload_n 0, 1) := by decide +kernel
theorem dX11_needs_31 : decode cX11_needs 31 = .ok (.iload_n 1, 1) := by decide +kernel
theorem dX11_needs_32 : decode cX11_needs 32 = .ok (.iload_n 2, 1) := by decide +kernel
theorem dX11_needs_33 : decode cX11_needs 33 = .ok (.invokevirtual 413, 3) := by decide +kernel
theorem dX11_needs_36 : decode cX11_needs 36 = .ok (.istore 4, 2) := by decide +kernel
theorem dX11_needs_38 : decode cX11_needs 38 = .ok (.iload_n 3, 1) := by decide +kernel
theorem dX11_needs_39 : decode cX11_needs 39 = .ok (.ifCond .gt 5, 3) := by decide +kernel
theorem dX11_needs_42 : decode cX11_needs 42 = .ok (.iconst 0, 1) := by decide +kernel
theorem dX11_needs_43 : decode cX11_needs 43 = .ok (.ireturn, 1) := by decide +kernel
theorem dX11_needs_44 : decode cX11_needs 44 = .ok (.iload 4, 2) := by decide +kernel
theorem dX11_needs_46 : decode cX11_needs 46 = .ok (.ifCond .ne 7, 3) := by decide +kernel
theorem dX11_needs_49 : decode cX11_needs 49 = .ok (.iconst (-1), 1) := by decide +kernel
theorem dX11_needs_50 : decode cX11_needs 50 = .ok (.goto 12, 3) := by decide +kernel
theorem dX11_needs_53 : decode cX11_needs 53 = .ok (.iload_n 3, 1) := by decide +kernel
theorem dX11_needs_54 : decode cX11_needs 54 = .ok (.iload 4, 2) := by decide +kernel
theorem dX11_needs_56 : decode cX11_needs 56 = .ok (.iadd, 1) := by decide +kernel
theorem dX11_needs_57 : decode cX11_needs 57 = .ok (.iconst 1, 1) := by decide +kernel
theorem dX11_needs_58 : decode cX11_needs 58 = .ok (.isub, 1) := by decide +kernel
theorem dX11_needs_59 : decode cX11_needs 59 = .ok (.iload 4, 2) := by decide +kernel
theorem dX11_needs_61 : decode cX11_needs 61 = .ok (.idiv, 1) := by decide +kernel
theorem dX11_needs_62 : decode cX11_needs 62 = .ok (.ireturn, 1) := by decide +kernel
theorem dX11_over_0 : decode cX11_over 0 = .ok (.aload_n 0, 1) := by decide +kernel
theorem dX11_over_1 : decode cX11_over 1 = .ok (.iload_n 1, 1) := by decide +kernel
theorem dX11_over_2 : decode cX11_over 2 = .ok (.invokevirtual 440, 3) := by decide +kernel
theorem dX11_over_5 : decode cX11_over 5 = .ok (.ifCond .ne 5, 3) := by decide +kernel
theorem dX11_over_8 : decode cX11_over 8 = .ok (.iconst (-1), 1) := by decide +kernel
theorem dX11_over_9 : decode cX11_over 9 = .ok (.ireturn, 1) := by decide +kernel
theorem dX11_over_10 : decode cX11_over 10 = .ok (.aload_n 0, 1) := by decide +kernel
theorem dX11_over_11 : decode cX11_over 11 = .ok (.iload_n 1, 1) := by decide +kernel
theorem dX11_over_12 : decode cX11_over 12 = .ok (.invokevirtual 425, 3) := by decide +kernel
theorem dX11_over_15 : decode cX11_over 15 = .ok (.aload_n 0, 1) := by decide +kernel
theorem dX11_over_16 : decode cX11_over 16 = .ok (.iload_n 1, 1) := by decide +kernel
theorem dX11_over_17 : decode cX11_over 17 = .ok (.invokevirtual 422, 3) := by decide +kernel
theorem dX11_over_20 : decode cX11_over 20 = .ok (.isub, 1) := by decide +kernel
theorem dX11_over_21 : decode cX11_over 21 = .ok (.istore_n 2, 1) := by decide +kernel
theorem dX11_over_22 : decode cX11_over 22 = .ok (.iload_n 2, 1) := by decide +kernel
theorem dX11_over_23 : decode cX11_over 23 = .ok (.ifCond .ge 7, 3) := by decide +kernel
theorem dX11_over_26 : decode cX11_over 26 = .ok (.iconst 0, 1) := by decide +kernel
theorem dX11_over_27 : decode cX11_over 27 = .ok (.goto 4, 3) := by decide +kernel
theorem dX11_over_30 : decode cX11_over 30 = .ok (.iload_n 2, 1) := by decide +kernel
theorem dX11_over_31 : decode cX11_over 31 = .ok (.ireturn, 1) := by decide +kernel
theorem dX11_bitesIn_0 : decode cX11_bitesIn 0 = .ok (.aload_n 0, 1) := by decide +kernel
theorem dX11_bitesIn_1 : decode cX11_bitesIn 1 = .ok (.iload_n 1, 1) := by decide +kernel
theorem dX11_bitesIn_2 : decode cX11_bitesIn 2 = .ok (.invokevirtual 440, 3) := by decide +kernel
theorem dX11_bitesIn_5 : decode cX11_bitesIn 5 = .ok (.ifCond .ne 5, 3) := by decide +kernel
theorem dX11_bitesIn_8 : decode cX11_bitesIn 8 = .ok (.iconst (-1), 1) := by decide +kernel
theorem dX11_bitesIn_9 : decode cX11_bitesIn 9 = .ok (.ireturn, 1) := by decide +kernel
theorem dX11_bitesIn_10 : decode cX11_bitesIn 10 = .ok (.aload_n 0, 1) := by decide +kernel
theorem dX11_bitesIn_11 : decode cX11_bitesIn 11 = .ok (.invokevirtual 453, 3) := by decide +kernel
theorem dX11_bitesIn_14 : decode cX11_bitesIn 14 = .ok (.iconst 0, 1) := by decide +kernel
theorem dX11_bitesIn_15 : decode cX11_bitesIn 15 = .ok (.istore_n 2, 1) := by decide +kernel
theorem dX11_bitesIn_16 : decode cX11_bitesIn 16 = .ok (.iload_n 2, 1) := by decide +kernel
theorem dX11_bitesIn_17 : decode cX11_bitesIn 17 = .ok (.bipush 30, 2) := by decide +kernel
theorem dX11_bitesIn_19 : decode cX11_bitesIn 19 = .ok (.if_icmp .ge 34, 3) := by decide +kernel
theorem dX11_bitesIn_22 : decode cX11_bitesIn 22 = .ok (.aload_n 0, 1) := by decide +kernel
theorem dX11_bitesIn_23 : decode cX11_bitesIn 23 = .ok (.getfield 113, 3) := by decide +kernel
theorem dX11_bitesIn_26 : decode cX11_bitesIn 26 = .ok (.bipush 31, 2) := by decide +kernel
theorem dX11_bitesIn_28 : decode cX11_bitesIn 28 = .ok (.iload_n 1, 1) := by decide +kernel
theorem dX11_bitesIn_29 : decode cX11_bitesIn 29 = .ok (.iadd, 1) := by decide +kernel
theorem dX11_bitesIn_30 : decode cX11_bitesIn 30 = .ok (.iaload, 1) := by decide +kernel
theorem dX11_bitesIn_31 : decode cX11_bitesIn 31 = .ok (.aload_n 0, 1) := by decide +kernel
theorem dX11_bitesIn_32 : decode cX11_bitesIn 32 = .ok (.getfield 119, 3) := by decide +kernel
theorem dX11_bitesIn_35 : decode cX11_bitesIn 35 = .ok (.bipush 31, 2) := by decide +kernel
theorem dX11_bitesIn_37 : decode cX11_bitesIn 37 = .ok (.iload_n 1, 1) := by decide +kernel
theorem dX11_bitesIn_38 : decode cX11_bitesIn 38 = .ok (.iadd, 1) := by decide +kernel
theorem dX11_bitesIn_39 : decode cX11_bitesIn 39 = .ok (.iaload, 1) := by decide +kernel
theorem dX11_bitesIn_40 : decode cX11_bitesIn 40 = .ok (.if_icmp .ne 13, 3) := by decide +kernel
theorem dX11_bitesIn_43 : decode cX11_bitesIn 43 = .ok (.aload_n 0, 1) := by decide +kernel
theorem dX11_bitesIn_44 : decode cX11_bitesIn 44 = .ok (.invokevirtual 456, 3) := by decide +kernel
theorem dX11_bitesIn_47 : decode cX11_bitesIn 47 = .ok (.iinc 2 1, 3) := by decide +kernel
theorem dX11_bitesIn_50 : decode cX11_bitesIn 50 = .ok (.goto (-34), 3) := by decide +kernel
theorem dX11_bitesIn_53 : decode cX11_bitesIn 53 = .ok (.aload_n 0, 1) := by decide +kernel
theorem dX11_bitesIn_54 : decode cX11_bitesIn 54 = .ok (.getfield 113, 3) := by decide +kernel
theorem dX11_bitesIn_57 : decode cX11_bitesIn 57 = .ok (.bipush 31, 2) := by decide +kernel
theorem dX11_bitesIn_59 : decode cX11_bitesIn 59 = .ok (.iload_n 1, 1) := by decide +kernel
theorem dX11_bitesIn_60 : decode cX11_bitesIn 60 = .ok (.iadd, 1) := by decide +kernel
theorem dX11_bitesIn_61 : decode cX11_bitesIn 61 = .ok (.iaload, 1) := by decide +kernel
theorem dX11_bitesIn_62 : decode cX11_bitesIn 62 = .ok (.aload_n 0, 1) := by decide +kernel
theorem dX11_bitesIn_63 : decode cX11_bitesIn 63 = .ok (.getfield 119, 3) := by decide +kernel
theorem dX11_bitesIn_66 : decode cX11_bitesIn 66 = .ok (.bipush 31, 2) := by decide +kernel
theorem dX11_bitesIn_68 : decode cX11_bitesIn 68 = .ok (.iload_n 1, 1) := by decide +kernel
theorem dX11_bitesIn_69 : decode cX11_bitesIn 69 = .ok (.iadd, 1) := by decide +kernel
theorem dX11_bitesIn_70 : decode cX11_bitesIn 70 = .ok (.iaload, 1) := by decide +kernel
theorem dX11_bitesIn_71 : decode cX11_bitesIn 71 = .ok (.if_icmp .le 7, 3) := by decide +kernel
theorem dX11_bitesIn_74 : decode cX11_bitesIn 74 = .ok (.iconst 1, 1) := by decide +kernel
theorem dX11_bitesIn_75 : decode cX11_bitesIn 75 = .ok (.goto 4, 3) := by decide +kernel
theorem dX11_bitesIn_78 : decode cX11_bitesIn 78 = .ok (.iconst 0, 1) := by decide +kernel
theorem dX11_bitesIn_79 : decode cX11_bitesIn 79 = .ok (.istore_n 3, 1) := by decide +kernel
theorem dX11_bitesIn_80 : decode cX11_bitesIn 80 = .ok (.aload_n 0, 1) := by decide +kernel
theorem dX11_bitesIn_81 : decode cX11_bitesIn 81 = .ok (.invokevirtual 468, 3) := by decide +kernel
theorem dX11_bitesIn_84 : decode cX11_bitesIn 84 = .ok (.iload_n 3, 1) := by decide +kernel
theorem dX11_bitesIn_85 : decode cX11_bitesIn 85 = .ok (.ifCond .eq 9, 3) := by decide +kernel
theorem dX11_bitesIn_88 : decode cX11_bitesIn 88 = .ok (.iload_n 2, 1) := by decide +kernel
theorem dX11_bitesIn_89 : decode cX11_bitesIn 89 = .ok (.iconst 1, 1) := by decide +kernel
theorem dX11_bitesIn_90 : decode cX11_bitesIn 90 = .ok (.isub, 1) := by decide +kernel
theorem dX11_bitesIn_91 : decode cX11_bitesIn 91 = .ok (.goto 4, 3) := by decide +kernel
theorem dX11_bitesIn_94 : decode cX11_bitesIn 94 = .ok (.iconst (-1), 1) := by decide +kernel
theorem dX11_bitesIn_95 : decode cX11_bitesIn 95 = .ok (.ireturn, 1) := by decide +kernel
theorem dX11_will_0 : decode cX11_will 0 = .ok (.aload_n 0, 1) := by decide +kernel
theorem dX11_will_1 : decode cX11_will 1 = .ok (.iload_n 1, 1) := by decide +kernel
theorem dX11_will_2 : decode cX11_will 2 = .ok (.invokevirtual 446, 3) := by decide +kernel
theorem dX11_will_5 : decode cX11_will 5 = .ok (.ifCond .eq 13, 3) := by decide +kernel
theorem dX11_will_8 : decode cX11_will 8 = .ok (.iload_n 2, 1) := by decide +kernel
theorem dX11_will_9 : decode cX11_will 9 = .ok (.iconst 0, 1) := by decide +kernel
theorem dX11_will_10 : decode cX11_will 10 = .ok (.bipush 40, 2) := by decide +kernel
theorem dX11_will_12 : decode cX11_will 12 = .ok (.invokestatic 387, 3) := by decide +kernel
theorem dX11_will_15 : decode cX11_will 15 = .ok (.ifCond .ne 5, 3) := by decide +kernel
theorem dX11_will_18 : decode cX11_will 18 = .ok (.iconst (-1), 1) := by decide +kernel
theorem dX11_will_19 : decode cX11_will 19 = .ok (.ireturn, 1) := by decide +kernel
theorem dX11_will_20 : decode cX11_will 20 = .ok (.aload_n 0, 1) := by decide +kernel
theorem dX11_will_21 : decode cX11_will 21 = .ok (.invokevirtual 453, 3) := by decide +kernel
theorem dX11_will_24 : decode cX11_will 24 = .ok (.iconst 0, 1) := by decide +kernel
theorem dX11_will_25 : decode cX11_will 25 = .ok (.istore_n 3, 1) := by decide +kernel
theorem dX11_will_26 : decode cX11_will 26 = .ok (.iload_n 3, 1) := by decide +kernel
theorem dX11_will_27 : decode cX11_will 27 = .ok (.iload_n 2, 1) := by decide +kernel
theorem dX11_will_28 : decode cX11_will 28 = .ok (.if_icmp .ge 13, 3) := by decide +kernel
theorem dX11_will_31 : decode cX11_will 31 = .ok (.aload_n 0, 1) := by decide +kernel
theorem dX11_will_32 : decode cX11_will 32 = .ok (.invokevirtual 456, 3) := by decide +kernel
theorem dX11_will_35 : decode cX11_will 35 = .ok (.iinc 3 1, 3) := by decide +kernel
theorem dX11_will_38 : decode cX11_will 38 = .ok (.goto (-12), 3) := by decide +kernel
theorem dX11_will_41 : decode cX11_will 41 = .ok (.aload_n 0, 1) := by decide +kernel
theorem dX11_will_42 : decode cX11_will 42 = .ok (.getfield 113, 3) := by decide +kernel
theorem dX11_will_45 : decode cX11_will 45 = .ok (.bipush 15, 2) := by decide +kernel
theorem dX11_will_47 : decode cX11_will 47 = .ok (.iload_n 1, 1) := by decide +kernel
theorem dX11_will_48 : decode cX11_will 48 = .ok (.iadd, 1) := by decide +kernel
theorem dX11_will_49 : decode cX11_will 49 = .ok (.iaload, 1) := by decide +kernel
theorem dX11_will_50 : decode cX11_will 50 = .ok (.istore_n 3, 1) := by decide +kernel
theorem dX11_will_51 : decode cX11_will 51 = .ok (.aload_n 0, 1) := by decide +kernel
theorem dX11_will_52 : decode cX11_will 52 = .ok (.invokevirtual 468, 3) := by decide +kernel
theorem dX11_will_55 : decode cX11_will 55 = .ok (.iload_n 3, 1) := by decide +kernel
theorem dX11_will_56 : decode cX11_will 56 = .ok (.ireturn, 1) := by decide +kernel
theorem dX11_doom_0 : decode cX11_doom 0 = .ok (.iload_n 1, 1) := by decide +kernel
theorem dX11_doom_1 : decode cX11_doom 1 = .ok (.iconst 0, 1) := by decide +kernel
theorem dX11_doom_2 : decode cX11_doom 2 = .ok (.iconst 1, 1) := by decide +kernel
theorem dX11_doom_3 : decode cX11_doom 3 = .ok (.invokestatic 387, 3) := by decide +kernel
theorem dX11_doom_6 : decode cX11_doom 6 = .ok (.ifCond .ne 5, 3) := by decide +kernel
theorem dX11_doom_9 : decode cX11_doom 9 = .ok (.iconst (-1), 1) := by decide +kernel
theorem dX11_doom_10 : decode cX11_doom 10 = .ok (.ireturn, 1) := by decide +kernel
theorem dX11_doom_11 : decode cX11_doom 11 = .ok (.aload_n 0, 1) := by decide +kernel
theorem dX11_doom_12 : decode cX11_doom 12 = .ok (.invokevirtual 453, 3) := by decide +kernel
theorem dX11_doom_15 : decode cX11_doom 15 = .ok (.iconst 0, 1) := by decide +kernel
theorem dX11_doom_16 : decode cX11_doom 16 = .ok (.istore_n 2, 1) := by decide +kernel
theorem dX11_doom_17 : decode cX11_doom 17 = .ok (.iload_n 2, 1) := by decide +kernel
theorem dX11_doom_18 : decode cX11_doom 18 = .ok (.bipush 30, 2) := by decide +kernel
theorem dX11_doom_20 : decode cX11_doom 20 = .ok (.if_icmp .ge 20, 3) := by decide +kernel
theorem dX11_doom_23 : decode cX11_doom 23 = .ok (.aload_n 0, 1) := by decide +kernel
theorem dX11_doom_24 : decode cX11_doom 24 = .ok (.invokevirtual 471, 3) := by decide +kernel
theorem dX11_doom_27 : decode cX11_doom 27 = .ok (.ifCond .ne 13, 3) := by decide +kernel
theorem dX11_doom_30 : decode cX11_doom 30 = .ok (.aload_n 0, 1) := by decide +kernel
theorem dX11_doom_31 : decode cX11_doom 31 = .ok (.invokevirtual 456, 3) := by decide +kernel
theorem dX11_doom_34 : decode cX11_doom 34 = .ok (.iinc 2 1, 3) := by decide +kernel
theorem dX11_doom_37 : decode cX11_doom 37 = .ok (.goto (-20), 3) := by decide +kernel
theorem dX11_doom_40 : decode cX11_doom 40 = .ok (.aload_n 0, 1) := by decide +kernel
theorem dX11_doom_41 : decode cX11_doom 41 = .ok (.invokevirtual 471, 3) := by decide +kernel
theorem dX11_doom_44 : decode cX11_doom 44 = .ok (.istore_n 3, 1) := by decide +kernel
theorem dX11_doom_45 : decode cX11_doom 45 = .ok (.aload_n 0, 1) := by decide +kernel
theorem dX11_doom_46 : decode cX11_doom 46 = .ok (.invokevirtual 468, 3) := by decide +kernel
theorem dX11_doom_49 : decode cX11_doom 49 = .ok (.iload_n 3, 1) := by decide +kernel
theorem dX11_doom_50 : decode cX11_doom 50 = .ok (.ifCond .ne 5, 3) := by decide +kernel
theorem dX11_doom_53 : decode cX11_doom 53 = .ok (.iconst (-1), 1) := by decide +kernel
theorem dX11_doom_54 : decode cX11_doom 54 = .ok (.ireturn, 1) := by decide +kernel
theorem dX11_doom_55 : decode cX11_doom 55 = .ok (.iconst 0, 1) := by decide +kernel
theorem dX11_doom_56 : decode cX11_doom 56 = .ok (.istore 4, 2) := by decide +kernel
theorem dX11_doom_58 : decode cX11_doom 58 = .ok (.iload_n 3, 1) := by decide +kernel
theorem dX11_doom_59 : decode cX11_doom 59 = .ok (.iload 4, 2) := by decide +kernel
theorem dX11_doom_61 : decode cX11_doom 61 = .ok (.invokestatic 391, 3) := by decide +kernel
theorem dX11_doom_64 : decode cX11_doom 64 = .ok (.ifCond .ne 9, 3) := by decide +kernel
theorem dX11_doom_67 : decode cX11_doom 67 = .ok (.iinc 4 1, 3) := by decide +kernel
theorem dX11_doom_70 : decode cX11_doom 70 = .ok (.goto (-12), 3) := by decide +kernel
theorem dX11_doom_73 : decode cX11_doom 73 = .ok (.iload_n 1, 1) := by decide +kernel
theorem dX11_doom_74 : decode cX11_doom 74 = .ok (.ifCond .ne 7, 3) := by decide +kernel
theorem dX11_doom_77 : decode cX11_doom 77 = .ok (.iload_n 2, 1) := by decide +kernel
theorem dX11_doom_78 : decode cX11_doom 78 = .ok (.goto 5, 3) := by decide +kernel
theorem dX11_doom_81 : decode cX11_doom 81 = .ok (.iload 4, 2) := by decide +kernel
theorem dX11_doom_83 : decode cX11_doom 83 = .ok (.ireturn, 1) := by decide +kernel
set_option maxRecDepth 100000 in
theorem m_X11_exchange (l : Launch) (D : va_G) (cT : Nat → ClassId) (T : Nat → Option Nat) (q : Nat → Int) (hT : tokm T) (hq : qkm q) (a0 : Nat) (t0 : T a0 = some 0) : th_Met l D cT T (km q) yX11_exchange cX11_exchange 3 none (rmk 0 0) [.ref a0] (th_R T none) [33, 34] := by
  refine th_start (by decide) (Nat.le_of_ble_eq_true rfl) ?_
  intro p e s m below meth c ls S hK hH hr hlocks hnm hl
  have hx := S.1
  have hb := S.2.1
  have hl : lv_has ls 3 [(0, .ref a0)] := hl
  have J2 : ∀ (n : Nat) (H : Heap) (locs : List Loc) (ls : Array Slot) (v2_1 : Int32), IV v2_1 0 43 → th_H D cT T (km q) H → va_S (th_A T [33, 34]) s.heap H locs → lv_has ls 3 [(0, .ref a0), (1, .int v2_1)] → (43 + 1 - Int32.toInt v2_1).toNat < n → W p l e (rmk 0 0) s m [.ref a0].toArray below meth c H locs 0 0 (MQ below (th_Q D cT T (km q) (th_R T none) [33, 34]) [.ref a0].toArray s 0 0 (th_A T [33, 34])) (F0 m 2 ls []) := by
    intro n
    induction n with
    | zero => intro H locs ls v2_1 iv2_1 hH hS hl hn; exact absurd hn (Nat.not_lt_zero _)
    | succ n ih2 =>
      intro H locs ls v2_1 iv2_1 hH hS hl hn2
      have l1v2_1 := iv2_1.1; have l2v2_1 := iv2_1.2
      refine lv_iload_n hx hb dX11_exchange_2 rfl (lv_at hl 1 rfl) ?_
      refine lv_bipush (v := 43) hx hb dX11_exchange_3 (by decide) ?_
      refine lv_icmp_ge (tgt := 56) hx hb dX11_exchange_5 (by decide) (fun c1 => ?_) (fun c1 => ?_)
      · skip
        have rlc1 : (43 : Int) ≤ v2_1.toInt := iv_le c1
        have ir2 : IV v2_1 43 43 := iv_vR (iv_c (by decide) : IV 43 43 43) iv2_1 (iv_le c1) (by decide)
        have ir2a := ir2.1; have ir2b := ir2.2
        exact th_vret S hK hH hS hr hlocks rfl dX11_exchange_56
      · skip
        have rlc1 : v2_1.toInt < (43 : Int) := iv_nle c1
        have ir3 : IV v2_1 0 42 := iv_uL iv2_1 (iv_c (by decide) : IV 43 43 43) (iv_nle c1) (by decide)
        have ir3a := ir3.1; have ir3b := ir3.2
        refine lv_aload_n hx hb dX11_exchange_8 rfl (lv_at hl 0 rfl) ?_
        refine th_get S hK hH inG11 t0 km_0 rfl 53 (by decide) gm_1283 rfl rfl dX11_exchange_9 (fun v4 hv4 fv4 => ?_)
        obtain ⟨rf5, rfl, trf5⟩ := th_V.ref hv4
        refine lv_bipush (v := 43) hx hb dX11_exchange_12 (by decide) ?_
        refine lv_aload_n hx hb dX11_exchange_14 rfl (lv_at hl 0 rfl) ?_
        refine th_get S hK hH inG11 t0 km_0 rfl 54 (by decide) gm_1284 rfl rfl dX11_exchange_15 (fun v6 hv6 fv6 => ?_)
        obtain ⟨x7, rfl, ix7⟩ := th_V.int hv6
        have kx7a : q 7 ≤ x7.toInt := ix7.1
        have kx7b : x7.toInt ≤ q 7 := ix7.2
        have ix7 : IV x7 0 40 := iv_w ix7 (qkm_7 hq)
        refine lv_imul hx hb dX11_exchange_18 ?_
        refine lv_topi (fun x8 ex8 => ?_)
        have ix8 : IV x8 0 1720 := by rw [ex8]; exact iv_mul (iv_c (by decide) : IV 43 43 43) ix7 (by decide) (by decide)
        have ux8 : x8.toInt = (43 : Int) * x7.toInt := by rw [ex8]; exact iv_mulE (iv_corner ((iv_c (by decide) : IV 43 43 43)).1 ((iv_c (by decide) : IV 43 43 43)).2 (ix7).1 (ix7).2 (by decide))
        refine lv_iload_n hx hb dX11_exchange_19 rfl (lv_at hl 1 rfl) ?_
        refine lv_iadd hx hb dX11_exchange_20 ?_
        refine lv_topi (fun x9 ex9 => ?_)
        have ix9 : IV x9 0 1762 := by rw [ex9]; exact iv_add ix8 ir3 (by decide)
        have ux9 : x9.toInt = x8.toInt + v2_1.toInt := by rw [ex9]; exact iv_addE (by have z1 := (ix8).1; have z2 := (ix8).2; have z3 := (ir3).1; have z4 := (ir3).2; omega)
        refine th_iald S hK hH trf5 km_34 (th_in (hi := 1762) ix9 (by decide)) dX11_exchange_21 (fun v10 hv10 => ?_)
        obtain ⟨x11, rfl, ix11⟩ := th_V.int hv10
        refine lv_istore_n (lv' := [(2, .int x11), (0, .ref a0), (1, .int v2_1)]) hx hb dX11_exchange_22 rfl hl (by decide) rfl (fun ls hl => ?_)
        refine lv_aload_n hx hb dX11_exchange_23 rfl (lv_at hl 1 rfl) ?_
        refine th_getK S hK fv4 inG11 rfl (by decide) gm_1283 rfl dX11_exchange_24 ?_
        refine lv_bipush (v := 43) hx hb dX11_exchange_27 (by decide) ?_
        refine lv_aload_n hx hb dX11_exchange_29 rfl (lv_at hl 1 rfl) ?_
        refine th_get S hK hH inG11 t0 km_0 rfl 54 (by decide) gm_1284 rfl rfl dX11_exchange_30 (fun v13 hv13 fv13 => ?_)
        obtain ⟨x14, rfl, ix14⟩ := th_V.int hv13
        have kx14a : q 7 ≤ x14.toInt := ix14.1
        have kx14b : x14.toInt ≤ q 7 := ix14.2
        have ix14 : IV x14 0 40 := iv_w ix14 (qkm_7 hq)
        refine lv_imul hx hb dX11_exchange_33 ?_
        refine lv_topi (fun x15 ex15 => ?_)
        have ix15 : IV x15 0 1720 := by rw [ex15]; exact iv_mul (iv_c (by decide) : IV 43 43 43) ix14 (by decide) (by decide)
        have ux15 : x15.toInt = (43 : Int) * x14.toInt := by rw [ex15]; exact iv_mulE (iv_corner ((iv_c (by decide) : IV 43 43 43)).1 ((iv_c (by decide) : IV 43 43 43)).2 (ix14).1 (ix14).2 (by decide))
        refine lv_iload_n hx hb dX11_exchange_34 rfl (lv_at hl 2 rfl) ?_
        refine lv_iadd hx hb dX11_exchange_35 ?_
        refine lv_topi (fun x16 ex16 => ?_)
        have ix16 : IV x16 0 1762 := by rw [ex16]; exact iv_add ix15 ir3 (by decide)
        have ux16 : x16.toInt = x15.toInt + v2_1.toInt := by rw [ex16]; exact iv_addE (by have z1 := (ix15).1; have z2 := (ix15).2; have z3 := (ir3).1; have z4 := (ir3).2; omega)
        refine lv_aload_n hx hb dX11_exchange_36 rfl (lv_at hl 1 rfl) ?_
        refine th_get S hK hH inG11 t0 km_0 rfl 52 (by decide) gm_1282 rfl rfl dX11_exchange_37 (fun v17 hv17 fv17 => ?_)
        obtain ⟨rf18, rfl, trf18⟩ := th_V.ref hv17
        refine lv_iload_n hx hb dX11_exchange_40 rfl (lv_at hl 2 rfl) ?_
        refine th_iald S hK hH trf18 km_33 (th_in (hi := 42) ir3 (by decide)) dX11_exchange_41 (fun v19 hv19 => ?_)
        obtain ⟨x20, rfl, ix20⟩ := th_V.int hv19
        refine th_iast S hK hH hS ⟨34, by decide, trf5⟩ trf5 km_34 (th_in (hi := 1762) ix16 (by decide)) (th_iv ix20) dX11_exchange_42 (fun H locs hH hS hq1 => ?_)
        have f21 := fv4.kept (hq1 _ (th_ne t0 trf5 (by decide)))
        have f22 := fv17.kept (hq1 _ (th_ne t0 trf5 (by decide)))
        refine lv_aload_n hx hb dX11_exchange_43 rfl (lv_at hl 1 rfl) ?_
        refine th_getK S hK f22 inG11 rfl (by decide) gm_1282 rfl dX11_exchange_44 ?_
        refine lv_iload_n hx hb dX11_exchange_47 rfl (lv_at hl 2 rfl) ?_
        refine lv_iload_n hx hb dX11_exchange_48 rfl (lv_at hl 0 rfl) ?_
        refine th_iast S hK hH hS ⟨33, by decide, trf18⟩ trf18 km_33 (th_in (hi := 42) ir3 (by decide)) (th_iv ix11) dX11_exchange_49 (fun H locs hH hS hq1 => ?_)
        have f24 := f21.kept (hq1 _ (th_ne t0 trf18 (by decide)))
        have f25 := f22.kept (hq1 _ (th_ne t0 trf18 (by decide)))
        refine th_iinc S dX11_exchange_50 hl (k := 2) rfl (by decide) ir3 (by decide) (fun x26 ls ex26 ix26 hl => ?_)
        have hl : lv_has ls 3 [(1, .int x26), (2, .int x11), (0, .ref a0)] := hl
        have ix26 : IV x26 1 43 := ix26
        refine lv_goto (tgt := 2) hx hb dX11_exchange_53 (by decide) ?_
        exact ih2 H locs ls x26 (iv_w ix26 (by decide)) hH hS (lv_sub hl [2, 0] rfl) (th_up iv2_1 ex26 (by decide) hn2)
  have J0 : ∀ (H : Heap) (locs : List Loc) (ls : Array Slot), th_H D cT T (km q) H → va_S (th_A T [33, 34]) s.heap H locs → lv_has ls 3 [(0, .ref a0)] → W p l e (rmk 0 0) s m [.ref a0].toArray below meth c H locs 0 0 (MQ below (th_Q D cT T (km q) (th_R T none) [33, 34]) [.ref a0].toArray s 0 0 (th_A T [33, 34])) (F0 m 0 ls []) := by
    intro H locs ls hH hS hl
    refine lv_iconst (v := 0) hx hb dX11_exchange_0 (by decide) ?_
    refine lv_istore_n (lv' := [(1, .int 0), (0, .ref a0)]) hx hb dX11_exchange_1 rfl hl (by decide) rfl (fun ls hl => ?_)
    exact J2 ((43 + 1 - Int32.toInt 0).toNat + 1) H locs ls 0 (iv_w (iv_c (by decide) : IV 0 0 0) (by decide)) hH hS (lv_sub hl [1, 0] rfl) (Nat.lt_succ_self _)
  exact J0 s.heap [] ls hH va_S.rf hl

set_option maxRecDepth 100000 in
theorem m_X11_give (l : Launch) (D : va_G) (cT : Nat → ClassId) (T : Nat → Option Nat) (q : Nat → Int) (hT : tokm T) (hq : qkm q) (a0 : Nat) (t0 : T a0 = some 0) (y1 : Int32) (j1 : IV y1 (-2147483648) 2147483647) (y2 : Int32) (j2 : IV y2 (-2147483648) 2147483647) (y3 : Int32) (j3 : IV y3 (-2147483648) 2147483647) (hp0 : q 7 + q 8 ≤ 40) : th_MetM l D cT T q yX11_give cX11_give 4 (some .int) (rmk 2 43) [.ref a0, .int y1, .int y2, .int y3] (fun v q2 => ∃ r : Int32, v = some (.int r) ∧ IV r (-2147483648) 2147483647 ∧ qkm q2 ∧ fr [7, 8] q q2 ∧ (q2 7 + q2 8 ≤ 40)) [0, 33, 34] := by
  refine th_startM (by decide) (Nat.le_of_ble_eq_true rfl) ?_
  intro p e s m below meth c ls S hK hH hr hlocks hnm hl
  have hx := S.1
  have hb := S.2.1
  have hl : lv_has ls 4 [(0, .ref a0), (1, .int y1), (2, .int y2), (3, .int y3)] := hl
  have J32 : ∀ (H : Heap) (locs : List Loc) (ls : Array Slot), th_H D cT T (km q) H → va_S (th_A T [0, 33, 34]) s.heap H locs → lv_has ls 4 [] → W p l e (rmk 2 43) s m [.ref a0, .int y1, .int y2, .int y3].toArray below meth c H locs 0 0 (MQ below (th_QM D cT T (fun v q2 => ∃ r : Int32, v = some (.int r) ∧ IV r (-2147483648) 2147483647 ∧ qkm q2 ∧ fr [7, 8] q q2 ∧ (q2 7 + q2 8 ≤ 40)) [0, 33, 34]) [.ref a0, .int y1, .int y2, .int y3].toArray s 0 0 (th_A T [0, 33, 34])) (F0 m 32 ls []) := by
    intro H locs ls hH hS hl
    refine lv_iconst (v := (-1)) hx hb dX11_give_32 (by decide) ?_
    exact th_iretM S hK hH hS hr hlocks ⟨_, rfl, (iv_top _), hq, fr_rf, (show q 7 + q 8 ≤ 40 by omega)⟩ dX11_give_33
  have J0 : ∀ (H : Heap) (locs : List Loc) (ls : Array Slot), th_H D cT T (km q) H → va_S (th_A T [0, 33, 34]) s.heap H locs → lv_has ls 4 [(0, .ref a0), (1, .int y1), (2, .int y2), (3, .int y3)] → W p l e (rmk 2 43) s m [.ref a0, .int y1, .int y2, .int y3].toArray below meth c H locs 0 0 (MQ below (th_QM D cT T (fun v q2 => ∃ r : Int32, v = some (.int r) ∧ IV r (-2147483648) 2147483647 ∧ qkm q2 ∧ fr [7, 8] q q2 ∧ (q2 7 + q2 8 ≤ 40)) [0, 33, 34]) [.ref a0, .int y1, .int y2, .int y3].toArray s 0 0 (th_A T [0, 33, 34])) (F0 m 0 ls []) := by
    intro H locs ls hH hS hl
    refine lv_aload_n hx hb dX11_give_0 rfl (lv_at hl 0 rfl) ?_
    refine lv_iload_n hx hb dX11_give_1 rfl (lv_at hl 1 rfl) ?_
    refine th_callVp (n := 1) (As := [.int y1]) S hK hH hS (th_A.sub (by decide)) (m_X11_isMap l D cT T q hT hq a0 t0 (y1) j1) gm_1626 gm_1623 gm_1625 gm_80 gm_124 (by decide +kernel) ⟨rfl, rfl, Nat.le_of_ble_eq_true rfl, Nat.le_of_ble_eq_true rfl⟩ t0 km_0 rfl rfl hl.1 rfl (Nat.le_of_ble_eq_true rfl) dX11_give_2 ⟨Nat.zero_le _, Nat.zero_le _⟩ (fun x1 H locs ix1 ox1 hH hS hF1 => ?_)
    have ox1 : x1.toInt ≠ 0 → 0 ≤ y1.toInt ∧ y1.toInt < q 11 := ox1
    have l1x1 := ix1.1; have l2x1 := ix1.2
    refine lv_if_eq (tgt := 32) hx hb dX11_give_5 (by decide) (fun c2 => ?_) (fun c2 => ?_)
    · skip
      have rlc2 : x1.toInt = (0 : Int) := congrArg Int32.toInt c2
      have ir3 : IV x1 0 0 := iv_eL c2 (iv_c (by decide) : IV 0 0 0)
      have ir3a := ir3.1; have ir3b := ir3.2
      exact J32 H locs ls  hH hS (lv_sub hl [] rfl)
    · skip
      have rlc2 : x1.toInt ≠ (0 : Int) := iv_ne c2
      have ir4 : IV x1 1 1 := iv_cutL ix1 (iv_c (by decide) : IV 0 0 0) c2 (by decide)
      have ir4a := ir4.1; have ir4b := ir4.2
      have ir5 : IV y1 0 3 := ((fun z => by have z1 := iv_ne z; have z2 : x1.toInt ≠ 0 := z1; have z60 := qkm_11 hq; exact ⟨by omega, by omega⟩) : ¬ x1 = 0 → IV y1 0 3) c2
      have ir5a := ir5.1; have ir5b := ir5.2
      refine lv_aload_n hx hb dX11_give_8 rfl (lv_at hl 0 rfl) ?_
      refine lv_iload_n hx hb dX11_give_9 rfl (lv_at hl 2 rfl) ?_
      refine th_callVp (n := 1) (As := [.int y2]) S hK hH hS (th_A.sub (by decide)) (m_X11_isFood l D cT T q hT hq a0 t0 (y2) j2) gm_1615 gm_1612 gm_1614 gm_79 gm_124 (by decide +kernel) ⟨rfl, rfl, Nat.le_of_ble_eq_true rfl, Nat.le_of_ble_eq_true rfl⟩ t0 km_0 rfl rfl hl.1 rfl (Nat.le_of_ble_eq_true rfl) dX11_give_10 ⟨Nat.zero_le _, Nat.zero_le _⟩ (fun x6 H locs ix6 ox6 hH hS hF1 => ?_)
      have ox6 : x6.toInt ≠ 0 → 0 ≤ y2.toInt ∧ y2.toInt < q 16 := ox6
      have l1x6 := ix6.1; have l2x6 := ix6.2
      refine lv_if_eq (tgt := 32) hx hb dX11_give_13 (by decide) (fun c7 => ?_) (fun c7 => ?_)
      · skip
        have rlc7 : x6.toInt = (0 : Int) := congrArg Int32.toInt c7
        have ir8 : IV x6 0 0 := iv_eL c7 (iv_c (by decide) : IV 0 0 0)
        have ir8a := ir8.1; have ir8b := ir8.2
        exact J32 H locs ls  hH hS (lv_sub hl [] rfl)
      · skip
        have rlc7 : x6.toInt ≠ (0 : Int) := iv_ne c7
        have ir9 : IV x6 1 1 := iv_cutL ix6 (iv_c (by decide) : IV 0 0 0) c7 (by decide)
        have ir9a := ir9.1; have ir9b := ir9.2
        have ir10 : IV y2 0 2 := ((fun z => by have z1 := iv_ne z; have z2 : x6.toInt ≠ 0 := z1; have z60 := qkm_16 hq; exact ⟨by omega, by omega⟩) : ¬ x6 = 0 → IV y2 0 2) c7
        have ir10a := ir10.1; have ir10b := ir10.2
        refine lv_iload_n hx hb dX11_give_16 rfl (lv_at hl 3 rfl) ?_
        refine lv_iconst (v := 1) hx hb dX11_give_17 (by decide) ?_
        refine lv_aload_n hx hb dX11_give_18 rfl (lv_at hl 0 rfl) ?_
        refine th_get S hK hH inG11 t0 km_0 rfl 52 (by decide) gm_1282 rfl rfl dX11_give_19 (fun v11 hv11 fv11 => ?_)
        obtain ⟨rf12, rfl, trf12⟩ := th_V.ref hv11
        refine lv_iconst (v := 0) hx hb dX11_give_22 (by decide) ?_
        refine lv_iload_n hx hb dX11_give_23 rfl (lv_at hl 2 rfl) ?_
        refine lv_iadd hx hb dX11_give_24 ?_
        refine lv_topi (fun x13 ex13 => ?_)
        have ix13 : IV x13 0 2 := by rw [ex13]; exact iv_add (iv_c (by decide) : IV 0 0 0) ir10 (by decide)
        have ux13 : x13.toInt = (0 : Int) + y2.toInt := by rw [ex13]; exact iv_addE (by have z1 := ((iv_c (by decide) : IV 0 0 0)).1; have z2 := ((iv_c (by decide) : IV 0 0 0)).2; have z3 := (ir10).1; have z4 := (ir10).2; omega)
        refine th_iald S hK hH trf12 km_33 (th_in (hi := 2) ix13 (by decide)) dX11_give_25 (fun v14 hv14 => ?_)
        obtain ⟨x15, rfl, ix15⟩ := th_V.int hv14
        refine th_callSp (n := 3) (As := [.int y3, .int 1, .int x15]) S hK hH hS (th_A.sub (by decide)) (m_X11_isIn l D cT T q hT hq (y3) j3 (1) (iv_top _) (x15) ix15) gm_1618 gm_1616 gm_1617 gm_124 (by decide +kernel) ⟨rfl, rfl, Nat.le_of_ble_eq_true rfl, Nat.le_of_ble_eq_true rfl⟩ rfl hl.1 rfl (Nat.le_of_ble_eq_true rfl) dX11_give_26 ⟨Nat.zero_le _, Nat.zero_le _⟩ (fun x16 H locs ix16 ox16 hH hS hF1 => ?_)
        obtain ⟨ox16_0, ox16_1⟩ := ox16
        have ox16_0 : x16.toInt ≠ 0 → (1 : Int) ≤ y3.toInt ∧ y3.toInt ≤ x15.toInt := ox16_0
        have ox16_1 : x16.toInt = 0 → y3.toInt < (1 : Int) ∨ x15.toInt < y3.toInt := ox16_1
        have l1x16 := ix16.1; have l2x16 := ix16.2
        have f17 := fv11.kept (hF1 _ fv11.lt (th_off t0 (by decide)))
        refine lv_if_ne (tgt := 34) hx hb dX11_give_29 (by decide) (fun c18 => ?_) (fun c18 => ?_)
        · skip
          have rlc18 : x16.toInt ≠ (0 : Int) := iv_ne c18
          have ir19 : IV x16 1 1 := iv_cutL ix16 (iv_c (by decide) : IV 0 0 0) c18 (by decide)
          have ir19a := ir19.1; have ir19b := ir19.2
          have ir20 : IV y3 1 2147483647 := ((fun z => by have z1 := iv_ne z; have z2 : x16.toInt ≠ 0 := z1; have z4 := ((iv_c (by decide) : IV 1 1 1)).1; have z5 := (ix15).2; exact ⟨by omega, by omega⟩) : ¬ x16 = 0 → IV y3 1 2147483647) c18
          have ir20a := ir20.1; have ir20b := ir20.2
          refine lv_aload_n hx hb dX11_give_34 rfl (lv_at hl 0 rfl) ?_
          refine th_callVM (n := 0) (As := []) S hK hH hS (th_A.sub (by decide)) (m_X11_keepAct l D cT T q hT hq a0 t0 (show q 7 + q 8 ≤ 40 by omega)) gm_1697 gm_1694 gm_1696 gm_91 gm_124 (by decide +kernel) ⟨rfl, rfl, Nat.le_of_ble_eq_true rfl, Nat.le_of_ble_eq_true rfl⟩ t0 km_0 rfl rfl hl.1 rfl (Nat.le_of_ble_eq_true rfl) dX11_give_35 ⟨Nat.zero_le _, Nat.zero_le _⟩ (fun wq21 q21 H locs hEq21 hH hS hF1 => ?_)
          obtain ⟨rfl, hqq21, g0q21, pq21_0⟩ := hEq21
          show W p l e (rmk 2 43) s m [.ref a0, .int y1, .int y2, .int y3].toArray below meth c H locs 0 0 (MQ below (th_QM D cT T (fun v q2 => ∃ r : Int32, v = some (.int r) ∧ IV r (-2147483648) 2147483647 ∧ qkm q2 ∧ fr [7, 8] q q2 ∧ (q2 7 + q2 8 ≤ 40)) [0, 33, 34]) [.ref a0, .int y1, .int y2, .int y3].toArray s 0 0 (th_A T [0, 33, 34])) (F0 m 38 ls [])
          have pq21_0 : q21 7 + q21 8 ≤ 40 := pq21_0
          have h0q21 : fr [7, 8] q q21 := fr_tr fr_rf g0q21 (by decide)
          refine lv_aload_n hx hb dX11_give_38 rfl (lv_at hl 0 rfl) ?_
          refine th_get S hK hH inG11 t0 km_0 rfl 52 (by decide) gm_1282 rfl rfl dX11_give_39 (fun v22 hv22 fv22 => ?_)
          obtain ⟨rf23, rfl, trf23⟩ := th_V.ref hv22
          refine lv_iconst (v := 0) hx hb dX11_give_42 (by decide) ?_
          refine lv_iload_n hx hb dX11_give_43 rfl (lv_at hl 2 rfl) ?_
          refine lv_iadd hx hb dX11_give_44 ?_
          refine lv_topi (fun x24 ex24 => ?_)
          have zx24 : x13 = x24 := ex13.trans ex24.symm
          subst zx24
          refine lv_dup2_11 hx hb dX11_give_45 rfl rfl ?_
          refine th_iald S hK hH trf23 km_33 (th_in (hi := 2) ix13 (by decide)) dX11_give_46 (fun v25 hv25 => ?_)
          obtain ⟨x26, rfl, ix26⟩ := th_V.int hv25
          refine lv_iload_n hx hb dX11_give_47 rfl (lv_at hl 3 rfl) ?_
          refine lv_isub hx hb dX11_give_48 ?_
          refine lv_topi (fun x27 ex27 => ?_)
          have ix27 := iv_top x27
          refine th_iast S hK hH hS ⟨33, by decide, trf23⟩ trf23 km_33 (th_in (hi := 2) ix13 (by decide)) (th_iv ix27) dX11_give_49 (fun H locs hH hS hq1 => ?_)
          have f28 := fv22.kept (hq1 _ (th_ne t0 trf23 (by decide)))
          refine lv_aload_n hx hb dX11_give_50 rfl (lv_at hl 0 rfl) ?_
          refine th_getK S hK f28 inG11 rfl (by decide) gm_1282 rfl dX11_give_51 ?_
          refine lv_iconst (v := 3) hx hb dX11_give_54 (by decide) ?_
          refine lv_iconst (v := 3) hx hb dX11_give_55 (by decide) ?_
          refine lv_iload_n hx hb dX11_give_56 rfl (lv_at hl 1 rfl) ?_
          refine lv_imul hx hb dX11_give_57 ?_
          refine lv_topi (fun x30 ex30 => ?_)
          have ix30 : IV x30 0 9 := by rw [ex30]; exact iv_mul (iv_c (by decide) : IV 3 3 3) ir5 (by decide) (by decide)
          have ux30 : x30.toInt = (3 : Int) * y1.toInt := by rw [ex30]; exact iv_mulE (iv_corner ((iv_c (by decide) : IV 3 3 3)).1 ((iv_c (by decide) : IV 3 3 3)).2 (ir5).1 (ir5).2 (by decide))
          refine lv_iadd hx hb dX11_give_58 ?_
          refine lv_topi (fun x31 ex31 => ?_)
          have ix31 : IV x31 3 12 := by rw [ex31]; exact iv_add (iv_c (by decide) : IV 3 3 3) ix30 (by decide)
          have ux31 : x31.toInt = (3 : Int) + x30.toInt := by rw [ex31]; exact iv_addE (by have z1 := ((iv_c (by decide) : IV 3 3 3)).1; have z2 := ((iv_c (by decide) : IV 3 3 3)).2; have z3 := (ix30).1; have z4 := (ix30).2; omega)
          refine lv_iload_n hx hb dX11_give_59 rfl (lv_at hl 2 rfl) ?_
          refine lv_iadd hx hb dX11_give_60 ?_
          refine lv_topi (fun x32 ex32 => ?_)
          have ix32 : IV x32 3 14 := by rw [ex32]; exact iv_add ix31 ir10 (by decide)
          have ux32 : x32.toInt = x31.toInt + y2.toInt := by rw [ex32]; exact iv_addE (by have z1 := (ix31).1; have z2 := (ix31).2; have z3 := (ir10).1; have z4 := (ir10).2; omega)
          refine lv_dup2_11 hx hb dX11_give_61 rfl rfl ?_
          refine th_iald S hK hH trf23 km_33 (th_in (hi := 14) (iv_w ix32 (by decide)) (by decide)) dX11_give_62 (fun v33 hv33 => ?_)
          obtain ⟨x34, rfl, ix34⟩ := th_V.int hv33
          refine lv_iload_n hx hb dX11_give_63 rfl (lv_at hl 3 rfl) ?_
          refine lv_iadd hx hb dX11_give_64 ?_
          refine lv_topi (fun x35 ex35 => ?_)
          have ix35 := iv_top x35
          refine th_iast S hK hH hS ⟨33, by decide, trf23⟩ trf23 km_33 (th_in (hi := 14) (iv_w ix32 (by decide)) (by decide)) (th_iv ix35) dX11_give_65 (fun H locs hH hS hq1 => ?_)
          have f36 := f28.kept (hq1 _ (th_ne t0 trf23 (by decide)))
          refine lv_aload_n hx hb dX11_give_66 rfl (lv_at hl 0 rfl) ?_
          refine th_getK S hK f36 inG11 rfl (by decide) gm_1282 rfl dX11_give_67 ?_
          refine lv_iconst (v := 0) hx hb dX11_give_70 (by decide) ?_
          refine lv_iload_n hx hb dX11_give_71 rfl (lv_at hl 2 rfl) ?_
          refine lv_iadd hx hb dX11_give_72 ?_
          refine lv_topi (fun x38 ex38 => ?_)
          have zx38 : x13 = x38 := ex13.trans ex38.symm
          subst zx38
          refine th_iald S hK hH trf23 km_33 (th_in (hi := 2) ix13 (by decide)) dX11_give_73 (fun v39 hv39 => ?_)
          obtain ⟨x40, rfl, ix40⟩ := th_V.int hv39
          exact th_iretM S hK hH hS hr hlocks ⟨_, rfl, ix40, hqq21, h0q21, (show q21 7 + q21 8 ≤ 40 by omega)⟩ dX11_give_74
        · skip
          have rlc18 : x16.toInt = (0 : Int) := congrArg Int32.toInt c18
          have ir41 : IV x16 0 0 := iv_eL c18 (iv_c (by decide) : IV 0 0 0)
          have ir41a := ir41.1; have ir41b := ir41.2
          exact J32 H locs ls  hH hS (lv_sub hl [] rfl)
  exact J0 s.heap [] ls hH va_S.rf hl

set_option maxRecDepth 100000 in
theorem m_X11_fold (l : Launch) (D : va_G) (cT : Nat → ClassId) (T : Nat → Option Nat) (q : Nat → Int) (hT : tokm T) (hq : qkm q) (a0 : Nat) (t0 : T a0 = some 0) (y1 : Int32) (j1 : IV y1 (-2147483648) 2147483647) (hp0 : q 7 + q 8 ≤ 40) : th_MetM l D cT T q yX11_fold cX11_fold 2 (some .int) (rmk 2 43) [.ref a0, .int y1] (fun v q2 => ∃ r : Int32, v = some (.int r) ∧ IV r (-1) 1 ∧ qkm q2 ∧ fr [7, 8] q q2 ∧ (q2 7 + q2 8 ≤ 40)) [0, 33, 34] := by
  refine th_startM (by decide) (Nat.le_of_ble_eq_true rfl) ?_
  intro p e s m below meth c ls S hK hH hr hlocks hnm hl
  have hx := S.1
  have hb := S.2.1
  have hl : lv_has ls 2 [(0, .ref a0), (1, .int y1)] := hl
  have J0 : ∀ (H : Heap) (locs : List Loc) (ls : Array Slot), th_H D cT T (km q) H → va_S (th_A T [0, 33, 34]) s.heap H locs → lv_has ls 2 [(0, .ref a0), (1, .int y1)] → W p l e (rmk 2 43) s m [.ref a0, .int y1].toArray below meth c H locs 0 0 (MQ below (th_QM D cT T (fun v q2 => ∃ r : Int32, v = some (.int r) ∧ IV r (-1) 1 ∧ qkm q2 ∧ fr [7, 8] q q2 ∧ (q2 7 + q2 8 ≤ 40)) [0, 33, 34]) [.ref a0, .int y1].toArray s 0 0 (th_A T [0, 33, 34])) (F0 m 0 ls []) := by
    intro H locs ls hH hS hl
    refine lv_aload_n hx hb dX11_fold_0 rfl (lv_at hl 0 rfl) ?_
    refine lv_iload_n hx hb dX11_fold_1 rfl (lv_at hl 1 rfl) ?_
    refine th_callVp (n := 1) (As := [.int y1]) S hK hH hS (th_A.sub (by decide)) (m_X11_isMap l D cT T q hT hq a0 t0 (y1) j1) gm_1626 gm_1623 gm_1625 gm_80 gm_124 (by decide +kernel) ⟨rfl, rfl, Nat.le_of_ble_eq_true rfl, Nat.le_of_ble_eq_true rfl⟩ t0 km_0 rfl rfl hl.1 rfl (Nat.le_of_ble_eq_true rfl) dX11_fold_2 ⟨Nat.zero_le _, Nat.zero_le _⟩ (fun x1 H locs ix1 ox1 hH hS hF1 => ?_)
    have ox1 : x1.toInt ≠ 0 → 0 ≤ y1.toInt ∧ y1.toInt < q 11 := ox1
    have l1x1 := ix1.1; have l2x1 := ix1.2
    refine lv_if_ne (tgt := 10) hx hb dX11_fold_5 (by decide) (fun c2 => ?_) (fun c2 => ?_)
    · skip
      have rlc2 : x1.toInt ≠ (0 : Int) := iv_ne c2
      have ir3 : IV x1 1 1 := iv_cutL ix1 (iv_c (by decide) : IV 0 0 0) c2 (by decide)
      have ir3a := ir3.1; have ir3b := ir3.2
      have ir4 : IV y1 0 3 := ((fun z => by have z1 := iv_ne z; have z2 : x1.toInt ≠ 0 := z1; have z60 := qkm_11 hq; exact ⟨by omega, by omega⟩) : ¬ x1 = 0 → IV y1 0 3) c2
      have ir4a := ir4.1; have ir4b := ir4.2
      refine lv_aload_n hx hb dX11_fold_10 rfl (lv_at hl 0 rfl) ?_
      refine th_callVM (n := 0) (As := []) S hK hH hS (th_A.sub (by decide)) (m_X11_keepAct l D cT T q hT hq a0 t0 (show q 7 + q 8 ≤ 40 by omega)) gm_1697 gm_1694 gm_1696 gm_91 gm_124 (by decide +kernel) ⟨rfl, rfl, Nat.le_of_ble_eq_true rfl, Nat.le_of_ble_eq_true rfl⟩ t0 km_0 rfl rfl hl.1 rfl (Nat.le_of_ble_eq_true rfl) dX11_fold_11 ⟨Nat.zero_le _, Nat.zero_le _⟩ (fun wq5 q5 H locs hEq5 hH hS hF1 => ?_)
      obtain ⟨rfl, hqq5, g0q5, pq5_0⟩ := hEq5
      show W p l e (rmk 2 43) s m [.ref a0, .int y1].toArray below meth c H locs 0 0 (MQ below (th_QM D cT T (fun v q2 => ∃ r : Int32, v = some (.int r) ∧ IV r (-1) 1 ∧ qkm q2 ∧ fr [7, 8] q q2 ∧ (q2 7 + q2 8 ≤ 40)) [0, 33, 34]) [.ref a0, .int y1].toArray s 0 0 (th_A T [0, 33, 34])) (F0 m 14 ls [])
      have pq5_0 : q5 7 + q5 8 ≤ 40 := pq5_0
      have h0q5 : fr [7, 8] q q5 := fr_tr fr_rf g0q5 (by decide)
      refine lv_aload_n hx hb dX11_fold_14 rfl (lv_at hl 0 rfl) ?_
      refine th_get S hK hH inG11 t0 km_0 rfl 52 (by decide) gm_1282 rfl rfl dX11_fold_15 (fun v6 hv6 fv6 => ?_)
      obtain ⟨rf7, rfl, trf7⟩ := th_V.ref hv6
      refine lv_bipush (v := 39) hx hb dX11_fold_18 (by decide) ?_
      refine lv_dup2_11 hx hb dX11_fold_20 rfl rfl ?_
      refine th_iald S hK hH trf7 km_33 (th_in (hi := 39) (iv_w (iv_c (by decide) : IV 39 39 39) (by decide)) (by decide)) dX11_fold_21 (fun v8 hv8 => ?_)
      obtain ⟨x9, rfl, ix9⟩ := th_V.int hv8
      refine lv_iconst (v := 1) hx hb dX11_fold_22 (by decide) ?_
      refine lv_iload_n hx hb dX11_fold_23 rfl (lv_at hl 1 rfl) ?_
      refine lv_ishl hx hb dX11_fold_24 ?_
      refine lv_topi (fun x10 ex10 => ?_)
      have ix10 := iv_top x10
      have ix10 : IV x10 1 1073741824 := by rw [ex10]; exact iv_shl1 (iv_w ir4 (by decide))
      refine lv_ixor hx hb dX11_fold_25 ?_
      refine lv_topi (fun x11 ex11 => ?_)
      have ix11 := iv_top x11
      refine th_iast S hK hH hS ⟨33, by decide, trf7⟩ trf7 km_33 (th_in (hi := 39) (iv_w (iv_c (by decide) : IV 39 39 39) (by decide)) (by decide)) (th_iv ix11) dX11_fold_26 (fun H locs hH hS hq1 => ?_)
      have f12 := fv6.kept (hq1 _ (th_ne t0 trf7 (by decide)))
      refine lv_aload_n hx hb dX11_fold_27 rfl (lv_at hl 0 rfl) ?_
      refine th_getK S hK f12 inG11 rfl (by decide) gm_1282 rfl dX11_fold_28 ?_
      refine lv_bipush (v := 39) hx hb dX11_fold_31 (by decide) ?_
      refine th_iald S hK hH trf7 km_33 (th_in (hi := 39) (iv_w (iv_c (by decide) : IV 39 39 39) (by decide)) (by decide)) dX11_fold_33 (fun v14 hv14 => ?_)
      obtain ⟨x15, rfl, ix15⟩ := th_V.int hv14
      refine lv_iload_n hx hb dX11_fold_34 rfl (lv_at hl 1 rfl) ?_
      refine lv_ishr hx hb dX11_fold_35 ?_
      refine lv_topi (fun x16 ex16 => ?_)
      have ix16 := iv_top x16
      refine lv_iconst (v := 1) hx hb dX11_fold_36 (by decide) ?_
      refine lv_iand hx hb dX11_fold_37 ?_
      refine lv_topi (fun x17 ex17 => ?_)
      have ix17 : IV x17 0 1 := by rw [ex17]; exact iv_and (h2 := 1) (iv_w (iv_c (by decide) : IV 1 1 1) (by decide)) (by decide)
      exact th_iretM S hK hH hS hr hlocks ⟨_, rfl, (iv_w ix17 (by decide)), hqq5, h0q5, (show q5 7 + q5 8 ≤ 40 by omega)⟩ dX11_fold_38
    · skip
      have rlc2 : x1.toInt = (0 : Int) := congrArg Int32.toInt c2
      have ir18 : IV x1 0 0 := iv_eL c2 (iv_c (by decide) : IV 0 0 0)
      have ir18a := ir18.1; have ir18b := ir18.2
      refine lv_iconst (v := (-1)) hx hb dX11_fold_8 (by decide) ?_
      exact th_iretM S hK hH hS hr hlocks ⟨_, rfl, (iv_w (iv_c (by decide) : IV (-1) (-1) (-1)) (by decide)), hq, fr_rf, (show q 7 + q 8 ≤ 40 by omega)⟩ dX11_fold_9
  exact J0 s.heap [] ls hH va_S.rf hl

set_option maxRecDepth 100000 in
theorem m_X11_put (l : Launch) (D : va_G) (cT : Nat → ClassId) (T : Nat → Option Nat) (q : Nat → Int) (hT : tokm T) (hq : qkm q) (a0 : Nat) (t0 : T a0 = some 0) (y1 : Int32) (j1 : IV y1 (-2147483648) 2147483647) (y2 : Int32) (j2 : IV y2 (-2147483648) 2147483647) (hp0 : q 7 + q 8 ≤ 40) : th_MetM l D cT T q yX11_put cX11_put 4 (some .int) (rmk 2 43) [.ref a0, .int y1, .int y2] (fun v q2 => ∃ r : Int32, v = some (.int r) ∧ IV r (-2147483648) 2147483647 ∧ qkm q2 ∧ fr [7, 8] q q2 ∧ (q2 7 + q2 8 ≤ 40)) [0, 33, 34] := by
  refine th_startM (by decide) (Nat.le_of_ble_eq_true rfl) ?_
  intro p e s m below meth c ls S hK hH hr hlocks hnm hl
  have hx := S.1
  have hb := S.2.1
  have hl : lv_has ls 4 [(0, .ref a0), (1, .int y1), (2, .int y2)] := hl
  have J17 : ∀ (H : Heap) (locs : List Loc) (ls : Array Slot), th_H D cT T (km q) H → va_S (th_A T [0, 33, 34]) s.heap H locs → lv_has ls 4 [] → W p l e (rmk 2 43) s m [.ref a0, .int y1, .int y2].toArray below meth c H locs 0 0 (MQ below (th_QM D cT T (fun v q2 => ∃ r : Int32, v = some (.int r) ∧ IV r (-2147483648) 2147483647 ∧ qkm q2 ∧ fr [7, 8] q q2 ∧ (q2 7 + q2 8 ≤ 40)) [0, 33, 34]) [.ref a0, .int y1, .int y2].toArray s 0 0 (th_A T [0, 33, 34])) (F0 m 17 ls []) := by
    intro H locs ls hH hS hl
    refine lv_iconst (v := (-1)) hx hb dX11_put_17 (by decide) ?_
    exact th_iretM S hK hH hS hr hlocks ⟨_, rfl, (iv_top _), hq, fr_rf, (show q 7 + q 8 ≤ 40 by omega)⟩ dX11_put_18
  have J0 : ∀ (H : Heap) (locs : List Loc) (ls : Array Slot), th_H D cT T (km q) H → va_S (th_A T [0, 33, 34]) s.heap H locs → lv_has ls 4 [(0, .ref a0), (1, .int y1), (2, .int y2)] → W p l e (rmk 2 43) s m [.ref a0, .int y1, .int y2].toArray below meth c H locs 0 0 (MQ below (th_QM D cT T (fun v q2 => ∃ r : Int32, v = some (.int r) ∧ IV r (-2147483648) 2147483647 ∧ qkm q2 ∧ fr [7, 8] q q2 ∧ (q2 7 + q2 8 ≤ 40)) [0, 33, 34]) [.ref a0, .int y1, .int y2].toArray s 0 0 (th_A T [0, 33, 34])) (F0 m 0 ls []) := by
    intro H locs ls hH hS hl
    refine lv_aload_n hx hb dX11_put_0 rfl (lv_at hl 0 rfl) ?_
    refine lv_iload_n hx hb dX11_put_1 rfl (lv_at hl 1 rfl) ?_
    refine th_callVp (n := 1) (As := [.int y1]) S hK hH hS (th_A.sub (by decide)) (m_X11_isMap l D cT T q hT hq a0 t0 (y1) j1) gm_1626 gm_1623 gm_1625 gm_80 gm_124 (by decide +kernel) ⟨rfl, rfl, Nat.le_of_ble_eq_true rfl, Nat.le_of_ble_eq_true rfl⟩ t0 km_0 rfl rfl hl.1 rfl (Nat.le_of_ble_eq_true rfl) dX11_put_2 ⟨Nat.zero_le _, Nat.zero_le _⟩ (fun x1 H locs ix1 ox1 hH hS hF1 => ?_)
    have ox1 : x1.toInt ≠ 0 → 0 ≤ y1.toInt ∧ y1.toInt < q 11 := ox1
    have l1x1 := ix1.1; have l2x1 := ix1.2
    refine lv_if_eq (tgt := 17) hx hb dX11_put_5 (by decide) (fun c2 => ?_) (fun c2 => ?_)
    · skip
      have rlc2 : x1.toInt = (0 : Int) := congrArg Int32.toInt c2
      have ir3 : IV x1 0 0 := iv_eL c2 (iv_c (by decide) : IV 0 0 0)
      have ir3a := ir3.1; have ir3b := ir3.2
      exact J17 H locs ls  hH hS (lv_sub hl [] rfl)
    · skip
      have rlc2 : x1.toInt ≠ (0 : Int) := iv_ne c2
      have ir4 : IV x1 1 1 := iv_cutL ix1 (iv_c (by decide) : IV 0 0 0) c2 (by decide)
      have ir4a := ir4.1; have ir4b := ir4.2
      have ir5 : IV y1 0 3 := ((fun z => by have z1 := iv_ne z; have z2 : x1.toInt ≠ 0 := z1; have z60 := qkm_11 hq; exact ⟨by omega, by omega⟩) : ¬ x1 = 0 → IV y1 0 3) c2
      have ir5a := ir5.1; have ir5b := ir5.2
      refine lv_iload_n hx hb dX11_put_8 rfl (lv_at hl 2 rfl) ?_
      refine lv_iconst (v := 0) hx hb dX11_put_9 (by decide) ?_
      refine lv_iconst (v := 3) hx hb dX11_put_10 (by decide) ?_
      refine th_callSp (n := 3) (As := [.int y2, .int 0, .int 3]) S hK hH hS (th_A.sub (by decide)) (m_X11_isIn l D cT T q hT hq (y2) j2 (0) (iv_top _) (3) (iv_top _)) gm_1618 gm_1616 gm_1617 gm_124 (by decide +kernel) ⟨rfl, rfl, Nat.le_of_ble_eq_true rfl, Nat.le_of_ble_eq_true rfl⟩ rfl hl.1 rfl (Nat.le_of_ble_eq_true rfl) dX11_put_11 ⟨Nat.zero_le _, Nat.zero_le _⟩ (fun x6 H locs ix6 ox6 hH hS hF1 => ?_)
      obtain ⟨ox6_0, ox6_1⟩ := ox6
      have ox6_0 : x6.toInt ≠ 0 → (0 : Int) ≤ y2.toInt ∧ y2.toInt ≤ (3 : Int) := ox6_0
      have ox6_1 : x6.toInt = 0 → y2.toInt < (0 : Int) ∨ (3 : Int) < y2.toInt := ox6_1
      have l1x6 := ix6.1; have l2x6 := ix6.2
      refine lv_if_ne (tgt := 19) hx hb dX11_put_14 (by decide) (fun c7 => ?_) (fun c7 => ?_)
      · skip
        have rlc7 : x6.toInt ≠ (0 : Int) := iv_ne c7
        have ir8 : IV x6 1 1 := iv_cutL ix6 (iv_c (by decide) : IV 0 0 0) c7 (by decide)
        have ir8a := ir8.1; have ir8b := ir8.2
        have ir9 : IV y2 0 3 := ((fun z => by have z1 := iv_ne z; have z2 : x6.toInt ≠ 0 := z1; have z4 := ((iv_c (by decide) : IV 0 0 0)).1; have z5 := ((iv_c (by decide) : IV 3 3 3)).2; exact ⟨by omega, by omega⟩) : ¬ x6 = 0 → IV y2 0 3) c7
        have ir9a := ir9.1; have ir9b := ir9.2
        refine lv_aload_n hx hb dX11_put_19 rfl (lv_at hl 0 rfl) ?_
        refine th_callVM (n := 0) (As := []) S hK hH hS (th_A.sub (by decide)) (m_X11_keepAct l D cT T q hT hq a0 t0 (show q 7 + q 8 ≤ 40 by omega)) gm_1697 gm_1694 gm_1696 gm_91 gm_124 (by decide +kernel) ⟨rfl, rfl, Nat.le_of_ble_eq_true rfl, Nat.le_of_ble_eq_true rfl⟩ t0 km_0 rfl rfl hl.1 rfl (Nat.le_of_ble_eq_true rfl) dX11_put_20 ⟨Nat.zero_le _, Nat.zero_le _⟩ (fun wq10 q10 H locs hEq10 hH hS hF1 => ?_)
        obtain ⟨rfl, hqq10, g0q10, pq10_0⟩ := hEq10
        show W p l e (rmk 2 43) s m [.ref a0, .int y1, .int y2].toArray below meth c H locs 0 0 (MQ below (th_QM D cT T (fun v q2 => ∃ r : Int32, v = some (.int r) ∧ IV r (-2147483648) 2147483647 ∧ qkm q2 ∧ fr [7, 8] q q2 ∧ (q2 7 + q2 8 ≤ 40)) [0, 33, 34]) [.ref a0, .int y1, .int y2].toArray s 0 0 (th_A T [0, 33, 34])) (F0 m 23 ls [])
        have pq10_0 : q10 7 + q10 8 ≤ 40 := pq10_0
        have h0q10 : fr [7, 8] q q10 := fr_tr fr_rf g0q10 (by decide)
        refine lv_aload_n hx hb dX11_put_23 rfl (lv_at hl 0 rfl) ?_
        refine th_get S hK hH inG11 t0 km_0 rfl 52 (by decide) gm_1282 rfl rfl dX11_put_24 (fun v11 hv11 fv11 => ?_)
        obtain ⟨rf12, rfl, trf12⟩ := th_V.ref hv11
        refine lv_bipush (v := 35) hx hb dX11_put_27 (by decide) ?_
        refine lv_iload_n hx hb dX11_put_29 rfl (lv_at hl 1 rfl) ?_
        refine lv_iadd hx hb dX11_put_30 ?_
        refine lv_topi (fun x13 ex13 => ?_)
        have ix13 : IV x13 35 38 := by rw [ex13]; exact iv_add (iv_c (by decide) : IV 35 35 35) ir5 (by decide)
        have ux13 : x13.toInt = (35 : Int) + y1.toInt := by rw [ex13]; exact iv_addE (by have z1 := ((iv_c (by decide) : IV 35 35 35)).1; have z2 := ((iv_c (by decide) : IV 35 35 35)).2; have z3 := (ir5).1; have z4 := (ir5).2; omega)
        refine th_iald S hK hH trf12 km_33 (th_in (hi := 38) (iv_w ix13 (by decide)) (by decide)) dX11_put_31 (fun v14 hv14 => ?_)
        obtain ⟨x15, rfl, ix15⟩ := th_V.int hv14
        refine lv_istore_n (lv' := [(3, .int x15), (0, .ref a0), (1, .int y1), (2, .int y2)]) hx hb dX11_put_32 rfl hl (by decide) rfl (fun ls hl => ?_)
        refine lv_aload_n hx hb dX11_put_33 rfl (lv_at hl 1 rfl) ?_
        refine th_getK S hK fv11 inG11 rfl (by decide) gm_1282 rfl dX11_put_34 ?_
        refine lv_bipush (v := 35) hx hb dX11_put_37 (by decide) ?_
        refine lv_iload_n hx hb dX11_put_39 rfl (lv_at hl 2 rfl) ?_
        refine lv_iadd hx hb dX11_put_40 ?_
        refine lv_topi (fun x17 ex17 => ?_)
        have zx17 : x13 = x17 := ex13.trans ex17.symm
        subst zx17
        refine lv_iload_n hx hb dX11_put_41 rfl (lv_at hl 3 rfl) ?_
        refine th_iast S hK hH hS ⟨33, by decide, trf12⟩ trf12 km_33 (th_in (hi := 38) (iv_w ix13 (by decide)) (by decide)) (th_iv (iv_top _)) dX11_put_42 (fun H locs hH hS hq1 => ?_)
        have f18 := fv11.kept (hq1 _ (th_ne t0 trf12 (by decide)))
        refine lv_iload_n hx hb dX11_put_43 rfl (lv_at hl 0 rfl) ?_
        exact th_iretM S hK hH hS hr hlocks ⟨_, rfl, ix15, hqq10, h0q10, (show q10 7 + q10 8 ≤ 40 by omega)⟩ dX11_put_44
      · skip
        have rlc7 : x6.toInt = (0 : Int) := congrArg Int32.toInt c7
        have ir19 : IV x6 0 0 := iv_eL c7 (iv_c (by decide) : IV 0 0 0)
        have ir19a := ir19.1; have ir19b := ir19.2
        exact J17 H locs ls  hH hS (lv_sub hl [] rfl)
  exact J0 s.heap [] ls hH va_S.rf hl

set_option maxRecDepth 100000 in
theorem m_X11_keepNow (l : Launch) (D : va_G) (cT : Nat → ClassId) (T : Nat → Option Nat) (q : Nat → Int) (hT : tokm T) (hq : qkm q) (a0 : Nat) (t0 : T a0 = some 0) : th_Met l D cT T (km q) yX11_keepNow cX11_keepNow 2 none (rmk 0 0) [.ref a0] (th_R T none) [35] := by
  refine th_start (by decide) (Nat.le_of_ble_eq_true rfl) ?_
  intro p e s m below meth c ls S hK hH hr hlocks hnm hl
  have hx := S.1
  have hb := S.2.1
  have hl : lv_has ls 2 [(0, .ref a0)] := hl
  have J2 : ∀ (n : Nat) (H : Heap) (locs : List Loc) (ls : Array Slot) (v2_1 : Int32), IV v2_1 0 43 → th_H D cT T (km q) H → va_S (th_A T [35]) s.heap H locs → lv_has ls 2 [(0, .ref a0), (1, .int v2_1)] → (43 + 1 - Int32.toInt v2_1).toNat < n → W p l e (rmk 0 0) s m [.ref a0].toArray below meth c H locs 0 0 (MQ below (th_Q D cT T (km q) (th_R T none) [35]) [.ref a0].toArray s 0 0 (th_A T [35])) (F0 m 2 ls []) := by
    intro n
    induction n with
    | zero => intro H locs ls v2_1 iv2_1 hH hS hl hn; exact absurd hn (Nat.not_lt_zero _)
    | succ n ih2 =>
      intro H locs ls v2_1 iv2_1 hH hS hl hn2
      have l1v2_1 := iv2_1.1; have l2v2_1 := iv2_1.2
      refine lv_iload_n hx hb dX11_keepNow_2 rfl (lv_at hl 1 rfl) ?_
      refine lv_bipush (v := 43) hx hb dX11_keepNow_3 (by decide) ?_
      refine lv_icmp_ge (tgt := 26) hx hb dX11_keepNow_5 (by decide) (fun c1 => ?_) (fun c1 => ?_)
      · skip
        have rlc1 : (43 : Int) ≤ v2_1.toInt := iv_le c1
        have ir2 : IV v2_1 43 43 := iv_vR (iv_c (by decide) : IV 43 43 43) iv2_1 (iv_le c1) (by decide)
        have ir2a := ir2.1; have ir2b := ir2.2
        exact th_vret S hK hH hS hr hlocks rfl dX11_keepNow_26
      · skip
        have rlc1 : v2_1.toInt < (43 : Int) := iv_nle c1
        have ir3 : IV v2_1 0 42 := iv_uL iv2_1 (iv_c (by decide) : IV 43 43 43) (iv_nle c1) (by decide)
        have ir3a := ir3.1; have ir3b := ir3.2
        refine lv_aload_n hx hb dX11_keepNow_8 rfl (lv_at hl 0 rfl) ?_
        refine th_get S hK hH inG11 t0 km_0 rfl 56 (by decide) gm_1286 rfl rfl dX11_keepNow_9 (fun v4 hv4 fv4 => ?_)
        obtain ⟨rf5, rfl, trf5⟩ := th_V.ref hv4
        refine lv_iload_n hx hb dX11_keepNow_12 rfl (lv_at hl 1 rfl) ?_
        refine lv_aload_n hx hb dX11_keepNow_13 rfl (lv_at hl 0 rfl) ?_
        refine th_get S hK hH inG11 t0 km_0 rfl 52 (by decide) gm_1282 rfl rfl dX11_keepNow_14 (fun v6 hv6 fv6 => ?_)
        obtain ⟨rf7, rfl, trf7⟩ := th_V.ref hv6
        refine lv_iload_n hx hb dX11_keepNow_17 rfl (lv_at hl 1 rfl) ?_
        refine th_iald S hK hH trf7 km_33 (th_in (hi := 42) ir3 (by decide)) dX11_keepNow_18 (fun v8 hv8 => ?_)
        obtain ⟨x9, rfl, ix9⟩ := th_V.int hv8
        refine th_iast S hK hH hS ⟨35, by decide, trf5⟩ trf5 km_35 (th_in (hi := 42) ir3 (by decide)) (th_iv ix9) dX11_keepNow_19 (fun H locs hH hS hq1 => ?_)
        refine th_iinc S dX11_keepNow_20 hl (k := 1) rfl (by decide) ir3 (by decide) (fun x10 ls ex10 ix10 hl => ?_)
        have hl : lv_has ls 2 [(1, .int x10), (0, .ref a0)] := hl
        have ix10 : IV x10 1 43 := ix10
        refine lv_goto (tgt := 2) hx hb dX11_keepNow_23 (by decide) ?_
        exact ih2 H locs ls x10 (iv_w ix10 (by decide)) hH hS (lv_sub hl [1, 0] rfl) (th_up iv2_1 ex10 (by decide) hn2)
  have J0 : ∀ (H : Heap) (locs : List Loc) (ls : Array Slot), th_H D cT T (km q) H → va_S (th_A T [35]) s.heap H locs → lv_has ls 2 [(0, .ref a0)] → W p l e (rmk 0 0) s m [.ref a0].toArray below meth c H locs 0 0 (MQ below (th_Q D cT T (km q) (th_R T none) [35]) [.ref a0].toArray s 0 0 (th_A T [35])) (F0 m 0 ls []) := by
    intro H locs ls hH hS hl
    refine lv_iconst (v := 0) hx hb dX11_keepNow_0 (by decide) ?_
    refine lv_istore_n (lv' := [(1, .int 0), (0, .ref a0)]) hx hb dX11_keepNow_1 rfl hl (by decide) rfl (fun ls hl => ?_)
    exact J2 ((43 + 1 - Int32.toInt 0).toNat + 1) H locs ls 0 (iv_w (iv_c (by decide) : IV 0 0 0) (by decide)) hH hS (lv_sub hl [1, 0] rfl) (Nat.lt_succ_self _)
  exact J0 s.heap [] ls hH va_S.rf hl

set_option maxRecDepth 100000 in
theorem m_X11_smaller (l : Launch) (D : va_G) (cT : Nat → ClassId) (T : Nat → Option Nat) (q : Nat → Int) (hT : tokm T) (hq : qkm q) (a0 : Nat) (t0 : T a0 = some 0) : th_Met l D cT T (km q) yX11_smaller cX11_smaller 3 (some .int) (rmk 0 0) [.ref a0] (th_R T (some (.inl (-2147483648, 2147483647)))) [] := by
  refine th_start (by decide) (Nat.le_of_ble_eq_true rfl) ?_
  intro p e s m below meth c ls S hK hH hr hlocks hnm hl
  have hx := S.1
  have hb := S.2.1
  have hl : lv_has ls 3 [(0, .ref a0)] := hl
  have J4 : ∀ (n : Nat) (H : Heap) (locs : List Loc) (ls : Array Slot) (v4_1 : Int32) (v4_2 : Int32), IV v4_1 (-2147483648) 2147483647 → IV v4_2 0 8 → th_H D cT T (km q) H → va_S (th_A T []) s.heap H locs → lv_has ls 3 [(0, .ref a0), (1, .int v4_1), (2, .int v4_2)] → (8 + 1 - Int32.toInt v4_2).toNat < n → W p l e (rmk 0 0) s m [.ref a0].toArray below meth c H locs 0 0 (MQ below (th_Q D cT T (km q) (th_R T (some (.inl (-2147483648, 2147483647)))) []) [.ref a0].toArray s 0 0 (th_A T [])) (F0 m 4 ls []) := by
    intro n
    induction n with
    | zero => intro H locs ls v4_1 v4_2 iv4_1 iv4_2 hH hS hl hn; exact absurd hn (Nat.not_lt_zero _)
    | succ n ih4 =>
      intro H locs ls v4_1 v4_2 iv4_1 iv4_2 hH hS hl hn4
      have J44 : ∀ (H : Heap) (locs : List Loc) (ls : Array Slot) (v44_1 : Int32), IV v44_1 (-2147483648) 2147483647 → IV v4_2 0 7 → th_H D cT T (km q) H → va_S (th_A T []) s.heap H locs → lv_has ls 3 [(0, .ref a0), (1, .int v44_1), (2, .int v4_2)] → W p l e (rmk 0 0) s m [.ref a0].toArray below meth c H locs 0 0 (MQ below (th_Q D cT T (km q) (th_R T (some (.inl (-2147483648, 2147483647)))) []) [.ref a0].toArray s 0 0 (th_A T [])) (F0 m 44 ls []) := by
        intro H locs ls v44_1 iv44_1 f44_v4_2 hH hS hl
        refine th_iinc S dX11_smaller_44 hl (k := 2) rfl (by decide) f44_v4_2 (by decide) (fun x1 ls ex1 ix1 hl => ?_)
        have hl : lv_has ls 3 [(2, .int x1), (0, .ref a0), (1, .int v44_1)] := hl
        have ix1 : IV x1 1 8 := ix1
        refine lv_goto (tgt := 4) hx hb dX11_smaller_47 (by decide) ?_
        exact ih4 H locs ls v44_1 x1 iv44_1 (iv_w ix1 (by decide)) hH hS (lv_sub hl [1, 2, 0] rfl) (th_up iv4_2 ex1 (by decide) hn4)
      have l1v4_2 := iv4_2.1; have l2v4_2 := iv4_2.2
      refine lv_iload_n hx hb dX11_smaller_4 rfl (lv_at hl 2 rfl) ?_
      refine lv_aload_n hx hb dX11_smaller_5 rfl (lv_at hl 0 rfl) ?_
      refine th_get S hK hH inG11 t0 km_0 rfl 13 (by decide) gm_1243 rfl rfl dX11_smaller_6 (fun v2 hv2 fv2 => ?_)
      obtain ⟨rf3, rfl, trf3⟩ := th_V.ref hv2
      refine lv_aload_n hx hb dX11_smaller_9 rfl (lv_at hl 0 rfl) ?_
      refine th_get S hK hH inG11 t0 km_0 rfl 41 (by decide) gm_1271 rfl rfl dX11_smaller_10 (fun v4 hv4 fv4 => ?_)
      obtain ⟨x5, rfl, ix5⟩ := th_V.int hv4
      have kx5a : q 10 ≤ x5.toInt := ix5.1
      have kx5b : x5.toInt ≤ q 10 := ix5.2
      have ix5 : IV x5 0 1 := iv_w ix5 (qkm_10 hq)
      refine th_iald S hK hH trf3 km_5 (th_in (hi := 1) ix5 (by decide)) dX11_smaller_13 (fun v6 hv6 => ?_)
      obtain ⟨x7, rfl, ix7⟩ := th_bkA hv6 ix5 (by omega)
      have kx7a : q 18 ≤ x7.toInt := ix7.1
      have kx7b : x7.toInt ≤ q 18 := ix7.2
      have ix7 : IV x7 0 8 := iv_w ix7 (qkm_18 hq)
      refine lv_icmp_ge (tgt := 50) hx hb dX11_smaller_14 (by decide) (fun c8 => ?_) (fun c8 => ?_)
      · skip
        have rlc8 : x7.toInt ≤ v4_2.toInt := iv_le c8
        refine lv_iload_n hx hb dX11_smaller_50 rfl (lv_at hl 1 rfl) ?_
        exact th_iret S hK hH hS hr hlocks (th_R.i iv4_1) dX11_smaller_51
      · skip
        have rlc8 : v4_2.toInt < x7.toInt := iv_nle c8
        have ir9 : IV v4_2 0 7 := iv_uL iv4_2 ix7 (iv_nle c8) (by decide)
        have ir9a := ir9.1; have ir9b := ir9.2
        have ir10 : IV x7 1 8 := iv_uR iv4_2 ix7 (iv_nle c8) (by decide)
        have ir10a := ir10.1; have ir10b := ir10.2
        refine lv_aload_n hx hb dX11_smaller_17 rfl (lv_at hl 0 rfl) ?_
        refine th_get S hK hH inG11 t0 km_0 rfl 52 (by decide) gm_1282 rfl rfl dX11_smaller_18 (fun v11 hv11 fv11 => ?_)
        obtain ⟨rf12, rfl, trf12⟩ := th_V.ref hv11
        refine lv_bipush (v := 15) hx hb dX11_smaller_21 (by decide) ?_
        refine lv_iload_n hx hb dX11_smaller_23 rfl (lv_at hl 2 rfl) ?_
        refine lv_iadd hx hb dX11_smaller_24 ?_
        refine lv_topi (fun x13 ex13 => ?_)
        have ix13 : IV x13 15 22 := by rw [ex13]; exact iv_add (iv_c (by decide) : IV 15 15 15) ir9 (by decide)
        have ux13 : x13.toInt = (15 : Int) + v4_2.toInt := by rw [ex13]; exact iv_addE (by have z1 := ((iv_c (by decide) : IV 15 15 15)).1; have z2 := ((iv_c (by decide) : IV 15 15 15)).2; have z3 := (ir9).1; have z4 := (ir9).2; omega)
        refine th_iald S hK hH trf12 km_33 (th_in (hi := 22) (iv_w ix13 (by decide)) (by decide)) dX11_smaller_25 (fun v14 hv14 => ?_)
        obtain ⟨x15, rfl, ix15⟩ := th_V.int hv14
        refine lv_aload_n hx hb dX11_smaller_26 rfl (lv_at hl 0 rfl) ?_
        refine th_get S hK hH inG11 t0 km_0 rfl 56 (by decide) gm_1286 rfl rfl dX11_smaller_27 (fun v16 hv16 fv16 => ?_)
        obtain ⟨rf17, rfl, trf17⟩ := th_V.ref hv16
        refine lv_bipush (v := 15) hx hb dX11_smaller_30 (by decide) ?_
        refine lv_iload_n hx hb dX11_smaller_32 rfl (lv_at hl 2 rfl) ?_
        refine lv_iadd hx hb dX11_smaller_33 ?_
        refine lv_topi (fun x18 ex18 => ?_)
        have zx18 : x13 = x18 := ex13.trans ex18.symm
        subst zx18
        refine th_iald S hK hH trf17 km_35 (th_in (hi := 22) (iv_w ix13 (by decide)) (by decide)) dX11_smaller_34 (fun v19 hv19 => ?_)
        obtain ⟨x20, rfl, ix20⟩ := th_V.int hv19
        refine lv_icmp_ge (tgt := 44) hx hb dX11_smaller_35 (by decide) (fun c21 => ?_) (fun c21 => ?_)
        · skip
          have rlc21 : x20.toInt ≤ x15.toInt := iv_le c21
          exact J44 H locs ls v4_1 iv4_1 ir9 hH hS (lv_sub hl [0, 1, 2] rfl)
        · skip
          have rlc21 : x15.toInt < x20.toInt := iv_nle c21
          have ir22 : IV x15 (-2147483648) 2147483646 := iv_uL ix15 ix20 (iv_nle c21) (by decide)
          have ir22a := ir22.1; have ir22b := ir22.2
          have ir23 : IV x20 (-2147483647) 2147483647 := iv_uR ix15 ix20 (iv_nle c21) (by decide)
          have ir23a := ir23.1; have ir23b := ir23.2
          refine lv_iload_n hx hb dX11_smaller_38 rfl (lv_at hl 1 rfl) ?_
          refine lv_iconst (v := 1) hx hb dX11_smaller_39 (by decide) ?_
          refine lv_iload_n hx hb dX11_smaller_40 rfl (lv_at hl 2 rfl) ?_
          refine lv_ishl hx hb dX11_smaller_41 ?_
          refine lv_topi (fun x24 ex24 => ?_)
          have ix24 := iv_top x24
          have ix24 : IV x24 1 1073741824 := by rw [ex24]; exact iv_shl1 (iv_w ir9 (by decide))
          refine lv_ior hx hb dX11_smaller_42 ?_
          refine lv_topi (fun x25 ex25 => ?_)
          have ix25 := iv_top x25
          refine lv_istore_n (lv' := [(1, .int x25), (0, .ref a0), (2, .int v4_2)]) hx hb dX11_smaller_43 rfl hl (by decide) rfl (fun ls hl => ?_)
          exact J44 H locs ls x25 ix25 ir9 hH hS (lv_sub hl [1, 0, 2] rfl)
  have J0 : ∀ (H : Heap) (locs : List Loc) (ls : Array Slot), th_H D cT T (km q) H → va_S (th_A T []) s.heap H locs → lv_has ls 3 [(0, .ref a0)] → W p l e (rmk 0 0) s m [.ref a0].toArray below meth c H locs 0 0 (MQ below (th_Q D cT T (km q) (th_R T (some (.inl (-2147483648, 2147483647)))) []) [.ref a0].toArray s 0 0 (th_A T [])) (F0 m 0 ls []) := by
    intro H locs ls hH hS hl
    refine lv_iconst (v := 0) hx hb dX11_smaller_0 (by decide) ?_
    refine lv_istore_n (lv' := [(1, .int 0), (0, .ref a0)]) hx hb dX11_smaller_1 rfl hl (by decide) rfl (fun ls hl => ?_)
    refine lv_iconst (v := 0) hx hb dX11_smaller_2 (by decide) ?_
    refine lv_istore_n (lv' := [(2, .int 0), (1, .int 0), (0, .ref a0)]) hx hb dX11_smaller_3 rfl hl (by decide) rfl (fun ls hl => ?_)
    exact J4 ((8 + 1 - Int32.toInt 0).toNat + 1) H locs ls 0 0 (iv_top _) (iv_w (iv_c (by decide) : IV 0 0 0) (by decide)) hH hS (lv_sub hl [2, 1, 0] rfl) (Nat.lt_succ_self _)
  exact J0 s.heap [] ls hH va_S.rf hl

set_option maxRecDepth 100000 in
theorem m_X11_year (l : Launch) (D : va_G) (cT : Nat → ClassId) (T : Nat → Option Nat) (q : Nat → Int) (hT : tokm T) (hq : qkm q) (a0 : Nat) (t0 : T a0 = some 0) (hp0 : q 7 + q 8 ≤ 40) : th_MetM l D cT T q yX11_year cX11_year 1 (some .int) (rmk 6 138) [.ref a0] (fun v q2 => ∃ r : Int32, v = some (.int r) ∧ IV r (-2147483648) 2147483647 ∧ qkm q2 ∧ fr [7, 8] q q2 ∧ (q2 7 + q2 8 ≤ 40)) [0, 32, 33, 34, 35] := by
  refine th_startM (by decide) (Nat.le_of_ble_eq_true rfl) ?_
  intro p e s m below meth c ls S hK hH hr hlocks hnm hl
  have hx := S.1
  have hb := S.2.1
  have hl : lv_has ls 1 [(0, .ref a0)] := hl
  have J0 : ∀ (H : Heap) (locs : List Loc) (ls : Array Slot), th_H D cT T (km q) H → va_S (th_A T [0, 32, 33, 34, 35]) s.heap H locs → lv_has ls 1 [(0, .ref a0)] → W p l e (rmk 6 138) s m [.ref a0].toArray below meth c H locs 0 0 (MQ below (th_QM D cT T (fun v q2 => ∃ r : Int32, v = some (.int r) ∧ IV r (-2147483648) 2147483647 ∧ qkm q2 ∧ fr [7, 8] q q2 ∧ (q2 7 + q2 8 ≤ 40)) [0, 32, 33, 34, 35]) [.ref a0].toArray s 0 0 (th_A T [0, 32, 33, 34, 35])) (F0 m 0 ls []) := by
    intro H locs ls hH hS hl
    refine lv_aload_n hx hb dX11_year_0 rfl (lv_at hl 0 rfl) ?_
    refine th_get S hK hH inG11 t0 km_0 rfl 52 (by decide) gm_1282 rfl rfl dX11_year_1 (fun v1 hv1 fv1 => ?_)
    obtain ⟨rf2, rfl, trf2⟩ := th_V.ref hv1
    refine lv_bipush (v := 40) hx hb dX11_year_4 (by decide) ?_
    refine th_iald S hK hH trf2 km_33 (th_in (hi := 40) (iv_w (iv_c (by decide) : IV 40 40 40) (by decide)) (by decide)) dX11_year_6 (fun v3 hv3 => ?_)
    obtain ⟨x4, rfl, ix4⟩ := th_V.int hv3
    refine lv_sipush (v := 999) hx hb dX11_year_7 (by decide) ?_
    refine lv_icmp_ne (tgt := 15) hx hb dX11_year_10 (by decide) (fun c5 => ?_) (fun c5 => ?_)
    · skip
      have rlc5 : x4.toInt ≠ (999 : Int) := iv_ne c5
      refine lv_aload_n hx hb dX11_year_15 rfl (lv_at hl 0 rfl) ?_
      refine th_callVM (n := 0) (As := []) S hK hH hS (th_A.sub (by decide)) (m_X11_keepAct l D cT T q hT hq a0 t0 (show q 7 + q 8 ≤ 40 by omega)) gm_1697 gm_1694 gm_1696 gm_91 gm_124 (by decide +kernel) ⟨rfl, rfl, Nat.le_of_ble_eq_true rfl, Nat.le_of_ble_eq_true rfl⟩ t0 km_0 rfl rfl hl.1 rfl (Nat.le_of_ble_eq_true rfl) dX11_year_16 ⟨Nat.zero_le _, Nat.zero_le _⟩ (fun wq6 q6 H locs hEq6 hH hS hF1 => ?_)
      obtain ⟨rfl, hqq6, g0q6, pq6_0⟩ := hEq6
      show W p l e (rmk 6 138) s m [.ref a0].toArray below meth c H locs 0 0 (MQ below (th_QM D cT T (fun v q2 => ∃ r : Int32, v = some (.int r) ∧ IV r (-2147483648) 2147483647 ∧ qkm q2 ∧ fr [7, 8] q q2 ∧ (q2 7 + q2 8 ≤ 40)) [0, 32, 33, 34, 35]) [.ref a0].toArray s 0 0 (th_A T [0, 32, 33, 34, 35])) (F0 m 19 ls [])
      have pq6_0 : q6 7 + q6 8 ≤ 40 := pq6_0
      have h0q6 : fr [7, 8] q q6 := fr_tr fr_rf g0q6 (by decide)
      refine lv_aload_n hx hb dX11_year_19 rfl (lv_at hl 0 rfl) ?_
      refine th_callVv (n := 0) (As := []) S hK hH hS (th_A.sub (by decide)) (m_X11_keepNow l D cT T q6 hT hqq6 a0 t0) gm_1713 gm_1710 gm_1712 gm_92 gm_124 (by decide +kernel) ⟨rfl, rfl, Nat.le_of_ble_eq_true rfl, Nat.le_of_ble_eq_true rfl⟩ t0 km_0 rfl rfl hl.1 rfl (Nat.le_of_ble_eq_true rfl) dX11_year_20 ⟨Nat.zero_le _, Nat.zero_le _⟩ (fun H locs hH hS hF1 => ?_)
      refine lv_aload_n hx hb dX11_year_23 rfl (lv_at hl 0 rfl) ?_
      refine th_callVv (n := 0) (As := []) S hK hH hS (th_A.sub (by decide)) (m_X11_goYear l D cT T q6 hT hqq6 a0 t0) gm_1717 gm_1714 gm_1716 gm_93 gm_124 (by decide +kernel) ⟨rfl, rfl, Nat.le_of_ble_eq_true rfl, Nat.le_of_ble_eq_true rfl⟩ t0 km_0 rfl rfl hl.1 rfl (Nat.le_of_ble_eq_true rfl) dX11_year_24 ⟨Nat.zero_le _, Nat.zero_le _⟩ (fun H locs hH hS hF1 => ?_)
      refine lv_aload_n hx hb dX11_year_27 rfl (lv_at hl 0 rfl) ?_
      refine th_callVi (n := 0) (As := []) S hK hH hS (th_A.sub (by decide)) (m_X11_smaller l D cT T q6 hT hqq6 a0 t0) gm_1733 gm_1730 gm_1732 gm_97 gm_124 (by decide +kernel) ⟨rfl, rfl, Nat.le_of_ble_eq_true rfl, Nat.le_of_ble_eq_true rfl⟩ t0 km_0 rfl rfl hl.1 rfl (Nat.le_of_ble_eq_true rfl) dX11_year_28 ⟨Nat.zero_le _, Nat.zero_le _⟩ (fun x7 H locs ix7 hH hS hF1 => ?_)
      refine th_callSi (n := 1) (As := [.int x7]) S hK hH hS (th_A.sub (by decide)) (m_X11_bitsOf l D cT T q6 hT hqq6 (x7) ix7) gm_1736 gm_1734 gm_1735 gm_124 (by decide +kernel) ⟨rfl, rfl, Nat.le_of_ble_eq_true rfl, Nat.le_of_ble_eq_true rfl⟩ rfl hl.1 rfl (Nat.le_of_ble_eq_true rfl) dX11_year_31 ⟨Nat.zero_le _, Nat.zero_le _⟩ (fun x8 H locs ix8 hH hS hF1 => ?_)
      exact th_iretM S hK hH hS hr hlocks ⟨_, rfl, ix8, hqq6, h0q6, (show q6 7 + q6 8 ≤ 40 by omega)⟩ dX11_year_34
    · skip
      have rlc5 : x4.toInt = (999 : Int) := congrArg Int32.toInt c5
      have ir9 : IV x4 999 999 := iv_eL c5 (iv_c (by decide) : IV 999 999 999)
      have ir9a := ir9.1; have ir9b := ir9.2
      refine lv_iconst (v := (-1)) hx hb dX11_year_13 (by decide) ?_
      exact th_iretM S hK hH hS hr hlocks ⟨_, rfl, (iv_top _), hq, fr_rf, (show q 7 + q 8 ≤ 40 by omega)⟩ dX11_year_14
  exact J0 s.heap [] ls hH va_S.rf hl

set_option maxRecDepth 100000 in
theorem m_X11_undo (l : Launch) (D : va_G) (cT : Nat → ClassId) (T : Nat → Option Nat) (q : Nat → Int) (hT : tokm T) (hq : qkm q) (a0 : Nat) (t0 : T a0 = some 0) (hp0 : q 7 + q 8 ≤ 40) : th_MetM l D cT T q yX11_undo cX11_undo 1 (some .boolean) (rmk 1 22) [.ref a0] (fun v q2 => ∃ r : Int32, v = some (.int r) ∧ IV r 0 1 ∧ qkm q2 ∧ fr [7, 8] q q2 ∧ (q2 7 + q2 8 ≤ 40)) [0, 33, 34] := by
  refine th_startM (by decide) (Nat.le_of_ble_eq_true rfl) ?_
  intro p e s m below meth c ls S hK hH hr hlocks hnm hl
  have hx := S.1
  have hb := S.2.1
  have hl : lv_has ls 1 [(0, .ref a0)] := hl
  have J0 : ∀ (H : Heap) (locs : List Loc) (ls : Array Slot), th_H D cT T (km q) H → va_S (th_A T [0, 33, 34]) s.heap H locs → lv_has ls 1 [(0, .ref a0)] → W p l e (rmk 1 22) s m [.ref a0].toArray below meth c H locs 0 0 (MQ below (th_QM D cT T (fun v q2 => ∃ r : Int32, v = some (.int r) ∧ IV r 0 1 ∧ qkm q2 ∧ fr [7, 8] q q2 ∧ (q2 7 + q2 8 ≤ 40)) [0, 33, 34]) [.ref a0].toArray s 0 0 (th_A T [0, 33, 34])) (F0 m 0 ls []) := by
    intro H locs ls hH hS hl
    refine lv_aload_n hx hb dX11_undo_0 rfl (lv_at hl 0 rfl) ?_
    refine th_get S hK hH inG11 t0 km_0 rfl 54 (by decide) gm_1284 rfl rfl dX11_undo_1 (fun v1 hv1 fv1 => ?_)
    obtain ⟨x2, rfl, ix2⟩ := th_V.int hv1
    have kx2a : q 7 ≤ x2.toInt := ix2.1
    have kx2b : x2.toInt ≤ q 7 := ix2.2
    have bx2 := qkm_7 hq
    have ix2 : IV x2 0 40 := iv_w ix2 (qkm_7 hq)
    refine lv_if_ne (tgt := 9) hx hb dX11_undo_4 (by decide) (fun c3 => ?_) (fun c3 => ?_)
    · skip
      have rlc3 : x2.toInt ≠ (0 : Int) := iv_ne c3
      have ir4 : IV x2 1 40 := iv_cutL ix2 (iv_c (by decide) : IV 0 0 0) c3 (by decide)
      have ir4a := ir4.1; have ir4b := ir4.2
      refine lv_aload_n hx hb dX11_undo_9 rfl (lv_at hl 0 rfl) ?_
      refine lv_dup hx hb dX11_undo_10 rfl ?_
      refine th_get S hK hH inG11 t0 km_0 rfl 54 (by decide) gm_1284 rfl rfl dX11_undo_11 (fun v5 hv5 fv5 => ?_)
      obtain ⟨x6, rfl, ix6⟩ := th_V.int hv5
      have kx6a : q 7 ≤ x6.toInt := ix6.1
      have kx6b : x6.toInt ≤ q 7 := ix6.2
      have bx6 := qkm_7 hq
      have ix6 : IV x6 0 40 := iv_w ix6 (qkm_7 hq)
      refine lv_iconst (v := 1) hx hb dX11_undo_14 (by decide) ?_
      refine lv_isub hx hb dX11_undo_15 ?_
      refine lv_topi (fun x7 ex7 => ?_)
      have ix7 : IV x7 (-1) 39 := by rw [ex7]; exact iv_sub ix6 (iv_c (by decide) : IV 1 1 1) (by decide)
      have ux7 : x7.toInt = x6.toInt - (1 : Int) := by rw [ex7]; exact iv_subE (by have z1 := (ix6).1; have z2 := (ix6).2; have z3 := ((iv_c (by decide) : IV 1 1 1)).1; have z4 := ((iv_c (by decide) : IV 1 1 1)).2; omega)
      obtain ⟨n9, en9⟩ : ∃ z : Int, z = Int32.toInt x7 := ⟨_, rfl⟩
      refine mput_7 S hK hH hS ⟨0, by decide, t0⟩ hT t0 en9 gm_1284 dX11_undo_16 (fun q8 H locs eq8 hH hS hq1 => ?_)
      have hqq8 : qkm q8 := by rw [eq8]; exact qum_ok7 hq (by have z1 := (ix7).1; have z2 := (ix7).2; exact ⟨by omega, by omega⟩)
      have h0q8 : fr [7, 8] q q8 := by rw [eq8]; exact fr_up fr_rf (by decide)
      have wq8_7 : q8 7 = n9 := by rw [eq8]; rfl
      have wq8_8 : q8 8 = q 8 := by rw [eq8]; rfl
      refine lv_aload_n hx hb dX11_undo_19 rfl (lv_at hl 0 rfl) ?_
      refine lv_dup hx hb dX11_undo_20 rfl ?_
      refine th_get S hK hH inG11 t0 km_0 rfl 55 (by decide) gm_1285 rfl rfl dX11_undo_21 (fun v10 hv10 fv10 => ?_)
      obtain ⟨x11, rfl, ix11⟩ := th_V.int hv10
      have kx11a : q8 8 ≤ x11.toInt := ix11.1
      have kx11b : x11.toInt ≤ q8 8 := ix11.2
      have bx11 := qkm_8 hqq8
      have ix11 : IV x11 0 40 := iv_w ix11 (qkm_8 hqq8)
      refine lv_iconst (v := 1) hx hb dX11_undo_24 (by decide) ?_
      refine lv_iadd hx hb dX11_undo_25 ?_
      refine lv_topi (fun x12 ex12 => ?_)
      have ix12 : IV x12 1 41 := by rw [ex12]; exact iv_add ix11 (iv_c (by decide) : IV 1 1 1) (by decide)
      have ux12 : x12.toInt = x11.toInt + (1 : Int) := by rw [ex12]; exact iv_addE (by have z1 := (ix11).1; have z2 := (ix11).2; have z3 := ((iv_c (by decide) : IV 1 1 1)).1; have z4 := ((iv_c (by decide) : IV 1 1 1)).2; omega)
      obtain ⟨n14, en14⟩ : ∃ z : Int, z = Int32.toInt x12 := ⟨_, rfl⟩
      refine mput_8 S hK hH hS ⟨0, by decide, t0⟩ hT t0 en14 gm_1285 dX11_undo_26 (fun q13 H locs eq13 hH hS hq1 => ?_)
      have hqq13 : qkm q13 := by rw [eq13]; exact qum_ok8 hqq8 (by have z1 := (ix12).1; have z2 := (ix12).2; exact ⟨by omega, by omega⟩)
      have h0q13 : fr [7, 8] q q13 := by rw [eq13]; exact fr_up h0q8 (by decide)
      have wq13_7 : q13 7 = q8 7 := by rw [eq13]; rfl
      have wq13_8 : q13 8 = n14 := by rw [eq13]; rfl
      refine lv_aload_n hx hb dX11_undo_29 rfl (lv_at hl 0 rfl) ?_
      refine th_callVv (n := 0) (As := []) S hK hH hS (th_A.sub (by decide)) (m_X11_exchange l D cT T q13 hT hqq13 a0 t0) gm_1744 gm_1741 gm_1743 gm_98 gm_124 (by decide +kernel) ⟨rfl, rfl, Nat.le_of_ble_eq_true rfl, Nat.le_of_ble_eq_true rfl⟩ t0 km_0 rfl rfl hl.1 rfl (Nat.le_of_ble_eq_true rfl) dX11_undo_30 ⟨Nat.zero_le _, Nat.zero_le _⟩ (fun H locs hH hS hF1 => ?_)
      refine lv_iconst (v := 1) hx hb dX11_undo_33 (by decide) ?_
      exact th_zretM S hK hH hS hr hlocks (iv_w (iv_c (by decide) : IV 1 1 1) (by decide)) ⟨_, rfl, (iv_w (iv_c (by decide) : IV 1 1 1) (by decide)), hqq13, h0q13, (show q13 7 + q13 8 ≤ 40 by omega)⟩ dX11_undo_34
    · skip
      have rlc3 : x2.toInt = (0 : Int) := congrArg Int32.toInt c3
      have ir15 : IV x2 0 0 := iv_eL c3 (iv_c (by decide) : IV 0 0 0)
      have ir15a := ir15.1; have ir15b := ir15.2
      refine lv_iconst (v := 0) hx hb dX11_undo_7 (by decide) ?_
      exact th_zretM S hK hH hS hr hlocks (iv_w (iv_c (by decide) : IV 0 0 0) (by decide)) ⟨_, rfl, (iv_w (iv_c (by decide) : IV 0 0 0) (by decide)), hq, fr_rf, (show q 7 + q 8 ≤ 40 by omega)⟩ dX11_undo_8
  exact J0 s.heap [] ls hH va_S.rf hl

set_option maxRecDepth 100000 in
theorem m_X11_redo (l : Launch) (D : va_G) (cT : Nat → ClassId) (T : Nat → Option Nat) (q : Nat → Int) (hT : tokm T) (hq : qkm q) (a0 : Nat) (t0 : T a0 = some 0) (hp0 : q 7 + q 8 ≤ 40) : th_MetM l D cT T q yX11_redo cX11_redo 1 (some .boolean) (rmk 1 22) [.ref a0] (fun v q2 => ∃ r : Int32, v = some (.int r) ∧ IV r 0 1 ∧ qkm q2 ∧ fr [7, 8] q q2 ∧ (q2 7 + q2 8 ≤ 40)) [0, 33, 34] := by
  refine th_startM (by decide) (Nat.le_of_ble_eq_true rfl) ?_
  intro p e s m below meth c ls S hK hH hr hlocks hnm hl
  have hx := S.1
  have hb := S.2.1
  have hl : lv_has ls 1 [(0, .ref a0)] := hl
  have J0 : ∀ (H : Heap) (locs : List Loc) (ls : Array Slot), th_H D cT T (km q) H → va_S (th_A T [0, 33, 34]) s.heap H locs → lv_has ls 1 [(0, .ref a0)] → W p l e (rmk 1 22) s m [.ref a0].toArray below meth c H locs 0 0 (MQ below (th_QM D cT T (fun v q2 => ∃ r : Int32, v = some (.int r) ∧ IV r 0 1 ∧ qkm q2 ∧ fr [7, 8] q q2 ∧ (q2 7 + q2 8 ≤ 40)) [0, 33, 34]) [.ref a0].toArray s 0 0 (th_A T [0, 33, 34])) (F0 m 0 ls []) := by
    intro H locs ls hH hS hl
    refine lv_aload_n hx hb dX11_redo_0 rfl (lv_at hl 0 rfl) ?_
    refine th_get S hK hH inG11 t0 km_0 rfl 55 (by decide) gm_1285 rfl rfl dX11_redo_1 (fun v1 hv1 fv1 => ?_)
    obtain ⟨x2, rfl, ix2⟩ := th_V.int hv1
    have kx2a : q 8 ≤ x2.toInt := ix2.1
    have kx2b : x2.toInt ≤ q 8 := ix2.2
    have bx2 := qkm_8 hq
    have ix2 : IV x2 0 40 := iv_w ix2 (qkm_8 hq)
    refine lv_if_ne (tgt := 9) hx hb dX11_redo_4 (by decide) (fun c3 => ?_) (fun c3 => ?_)
    · skip
      have rlc3 : x2.toInt ≠ (0 : Int) := iv_ne c3
      have ir4 : IV x2 1 40 := iv_cutL ix2 (iv_c (by decide) : IV 0 0 0) c3 (by decide)
      have ir4a := ir4.1; have ir4b := ir4.2
      refine lv_aload_n hx hb dX11_redo_9 rfl (lv_at hl 0 rfl) ?_
      refine th_callVv (n := 0) (As := []) S hK hH hS (th_A.sub (by decide)) (m_X11_exchange l D cT T q hT hq a0 t0) gm_1744 gm_1741 gm_1743 gm_98 gm_124 (by decide +kernel) ⟨rfl, rfl, Nat.le_of_ble_eq_true rfl, Nat.le_of_ble_eq_true rfl⟩ t0 km_0 rfl rfl hl.1 rfl (Nat.le_of_ble_eq_true rfl) dX11_redo_10 ⟨Nat.zero_le _, Nat.zero_le _⟩ (fun H locs hH hS hF1 => ?_)
      refine lv_aload_n hx hb dX11_redo_13 rfl (lv_at hl 0 rfl) ?_
      refine lv_dup hx hb dX11_redo_14 rfl ?_
      refine th_get S hK hH inG11 t0 km_0 rfl 54 (by decide) gm_1284 rfl rfl dX11_redo_15 (fun v5 hv5 fv5 => ?_)
      obtain ⟨x6, rfl, ix6⟩ := th_V.int hv5
      have kx6a : q 7 ≤ x6.toInt := ix6.1
      have kx6b : x6.toInt ≤ q 7 := ix6.2
      have bx6 := qkm_7 hq
      have ix6 : IV x6 0 40 := iv_w ix6 (qkm_7 hq)
      refine lv_iconst (v := 1) hx hb dX11_redo_18 (by decide) ?_
      refine lv_iadd hx hb dX11_redo_19 ?_
      refine lv_topi (fun x7 ex7 => ?_)
      have ix7 : IV x7 1 41 := by rw [ex7]; exact iv_add ix6 (iv_c (by decide) : IV 1 1 1) (by decide)
      have ux7 : x7.toInt = x6.toInt + (1 : Int) := by rw [ex7]; exact iv_addE (by have z1 := (ix6).1; have z2 := (ix6).2; have z3 := ((iv_c (by decide) : IV 1 1 1)).1; have z4 := ((iv_c (by decide) : IV 1 1 1)).2; omega)
      obtain ⟨n9, en9⟩ : ∃ z : Int, z = Int32.toInt x7 := ⟨_, rfl⟩
      refine mput_7 S hK hH hS ⟨0, by decide, t0⟩ hT t0 en9 gm_1284 dX11_redo_20 (fun q8 H locs eq8 hH hS hq1 => ?_)
      have hqq8 : qkm q8 := by rw [eq8]; exact qum_ok7 hq (by have z1 := (ix7).1; have z2 := (ix7).2; exact ⟨by omega, by omega⟩)
      have h0q8 : fr [7, 8] q q8 := by rw [eq8]; exact fr_up fr_rf (by decide)
      have wq8_7 : q8 7 = n9 := by rw [eq8]; rfl
      have wq8_8 : q8 8 = q 8 := by rw [eq8]; rfl
      refine lv_aload_n hx hb dX11_redo_23 rfl (lv_at hl 0 rfl) ?_
      refine lv_dup hx hb dX11_redo_24 rfl ?_
      refine th_get S hK hH inG11 t0 km_0 rfl 55 (by decide) gm_1285 rfl rfl dX11_redo_25 (fun v10 hv10 fv10 => ?_)
      obtain ⟨x11, rfl, ix11⟩ := th_V.int hv10
      have kx11a : q8 8 ≤ x11.toInt := ix11.1
      have kx11b : x11.toInt ≤ q8 8 := ix11.2
      have bx11 := qkm_8 hqq8
      have ix11 : IV x11 0 40 := iv_w ix11 (qkm_8 hqq8)
      refine lv_iconst (v := 1) hx hb dX11_redo_28 (by decide) ?_
      refine lv_isub hx hb dX11_redo_29 ?_
      refine lv_topi (fun x12 ex12 => ?_)
      have ix12 : IV x12 (-1) 39 := by rw [ex12]; exact iv_sub ix11 (iv_c (by decide) : IV 1 1 1) (by decide)
      have ux12 : x12.toInt = x11.toInt - (1 : Int) := by rw [ex12]; exact iv_subE (by have z1 := (ix11).1; have z2 := (ix11).2; have z3 := ((iv_c (by decide) : IV 1 1 1)).1; have z4 := ((iv_c (by decide) : IV 1 1 1)).2; omega)
      obtain ⟨n14, en14⟩ : ∃ z : Int, z = Int32.toInt x12 := ⟨_, rfl⟩
      refine mput_8 S hK hH hS ⟨0, by decide, t0⟩ hT t0 en14 gm_1285 dX11_redo_30 (fun q13 H locs eq13 hH hS hq1 => ?_)
      have hqq13 : qkm q13 := by rw [eq13]; exact qum_ok8 hqq8 (by have z1 := (ix12).1; have z2 := (ix12).2; exact ⟨by omega, by omega⟩)
      have h0q13 : fr [7, 8] q q13 := by rw [eq13]; exact fr_up h0q8 (by decide)
      have wq13_7 : q13 7 = q8 7 := by rw [eq13]; rfl
      have wq13_8 : q13 8 = n14 := by rw [eq13]; rfl
      refine lv_iconst (v := 1) hx hb dX11_redo_33 (by decide) ?_
      exact th_zretM S hK hH hS hr hlocks (iv_w (iv_c (by decide) : IV 1 1 1) (by decide)) ⟨_, rfl, (iv_w (iv_c (by decide) : IV 1 1 1) (by decide)), hqq13, h0q13, (show q13 7 + q13 8 ≤ 40 by omega)⟩ dX11_redo_34
    · skip
      have rlc3 : x2.toInt = (0 : Int) := congrArg Int32.toInt c3
      have ir15 : IV x2 0 0 := iv_eL c3 (iv_c (by decide) : IV 0 0 0)
      have ir15a := ir15.1; have ir15b := ir15.2
      refine lv_iconst (v := 0) hx hb dX11_redo_7 (by decide) ?_
      exact th_zretM S hK hH hS hr hlocks (iv_w (iv_c (by decide) : IV 0 0 0) (by decide)) ⟨_, rfl, (iv_w (iv_c (by decide) : IV 0 0 0) (by decide)), hq, fr_rf, (show q 7 + q 8 ≤ 40 by omega)⟩ dX11_redo_8
  exact J0 s.heap [] ls hH va_S.rf hl

set_option maxRecDepth 100000 in
theorem m_X11_bringBack (l : Launch) (D : va_G) (cT : Nat → ClassId) (T : Nat → Option Nat) (q : Nat → Int) (hT : tokm T) (hq : qkm q) (a0 : Nat) (t0 : T a0 = some 0) : th_Met l D cT T (km q) yX11_bringBack cX11_bringBack 2 none (rmk 0 0) [.ref a0] (th_R T none) [33] := by
  refine th_start (by decide) (Nat.le_of_ble_eq_true rfl) ?_
  intro p e s m below meth c ls S hK hH hr hlocks hnm hl
  have hx := S.1
  have hb := S.2.1
  have hl : lv_has ls 2 [(0, .ref a0)] := hl
  have J2 : ∀ (n : Nat) (H : Heap) (locs : List Loc) (ls : Array Slot) (v2_1 : Int32), IV v2_1 0 43 → th_H D cT T (km q) H → va_S (th_A T [33]) s.heap H locs → lv_has ls 2 [(0, .ref a0), (1, .int v2_1)] → (43 + 1 - Int32.toInt v2_1).toNat < n → W p l e (rmk 0 0) s m [.ref a0].toArray below meth c H locs 0 0 (MQ below (th_Q D cT T (km q) (th_R T none) [33]) [.ref a0].toArray s 0 0 (th_A T [33])) (F0 m 2 ls []) := by
    intro n
    induction n with
    | zero => intro H locs ls v2_1 iv2_1 hH hS hl hn; exact absurd hn (Nat.not_lt_zero _)
    | succ n ih2 =>
      intro H locs ls v2_1 iv2_1 hH hS hl hn2
      have l1v2_1 := iv2_1.1; have l2v2_1 := iv2_1.2
      refine lv_iload_n hx hb dX11_bringBack_2 rfl (lv_at hl 1 rfl) ?_
      refine lv_bipush (v := 43) hx hb dX11_bringBack_3 (by decide) ?_
      refine lv_icmp_ge (tgt := 26) hx hb dX11_bringBack_5 (by decide) (fun c1 => ?_) (fun c1 => ?_)
      · skip
        have rlc1 : (43 : Int) ≤ v2_1.toInt := iv_le c1
        have ir2 : IV v2_1 43 43 := iv_vR (iv_c (by decide) : IV 43 43 43) iv2_1 (iv_le c1) (by decide)
        have ir2a := ir2.1; have ir2b := ir2.2
        exact th_vret S hK hH hS hr hlocks rfl dX11_bringBack_26
      · skip
        have rlc1 : v2_1.toInt < (43 : Int) := iv_nle c1
        have ir3 : IV v2_1 0 42 := iv_uL iv2_1 (iv_c (by decide) : IV 43 43 43) (iv_nle c1) (by decide)
        have ir3a := ir3.1; have ir3b := ir3.2
        refine lv_aload_n hx hb dX11_bringBack_8 rfl (lv_at hl 0 rfl) ?_
        refine th_get S hK hH inG11 t0 km_0 rfl 52 (by decide) gm_1282 rfl rfl dX11_bringBack_9 (fun v4 hv4 fv4 => ?_)
        obtain ⟨rf5, rfl, trf5⟩ := th_V.ref hv4
        refine lv_iload_n hx hb dX11_bringBack_12 rfl (lv_at hl 1 rfl) ?_
        refine lv_aload_n hx hb dX11_bringBack_13 rfl (lv_at hl 0 rfl) ?_
        refine th_get S hK hH inG11 t0 km_0 rfl 56 (by decide) gm_1286 rfl rfl dX11_bringBack_14 (fun v6 hv6 fv6 => ?_)
        obtain ⟨rf7, rfl, trf7⟩ := th_V.ref hv6
        refine lv_iload_n hx hb dX11_bringBack_17 rfl (lv_at hl 1 rfl) ?_
        refine th_iald S hK hH trf7 km_35 (th_in (hi := 42) ir3 (by decide)) dX11_bringBack_18 (fun v8 hv8 => ?_)
        obtain ⟨x9, rfl, ix9⟩ := th_V.int hv8
        refine th_iast S hK hH hS ⟨33, by decide, trf5⟩ trf5 km_33 (th_in (hi := 42) ir3 (by decide)) (th_iv ix9) dX11_bringBack_19 (fun H locs hH hS hq1 => ?_)
        refine th_iinc S dX11_bringBack_20 hl (k := 1) rfl (by decide) ir3 (by decide) (fun x10 ls ex10 ix10 hl => ?_)
        have hl : lv_has ls 2 [(1, .int x10), (0, .ref a0)] := hl
        have ix10 : IV x10 1 43 := ix10
        refine lv_goto (tgt := 2) hx hb dX11_bringBack_23 (by decide) ?_
        exact ih2 H locs ls x10 (iv_w ix10 (by decide)) hH hS (lv_sub hl [1, 0] rfl) (th_up iv2_1 ex10 (by decide) hn2)
  have J0 : ∀ (H : Heap) (locs : List Loc) (ls : Array Slot), th_H D cT T (km q) H → va_S (th_A T [33]) s.heap H locs → lv_has ls 2 [(0, .ref a0)] → W p l e (rmk 0 0) s m [.ref a0].toArray below meth c H locs 0 0 (MQ below (th_Q D cT T (km q) (th_R T none) [33]) [.ref a0].toArray s 0 0 (th_A T [33])) (F0 m 0 ls []) := by
    intro H locs ls hH hS hl
    refine lv_iconst (v := 0) hx hb dX11_bringBack_0 (by decide) ?_
    refine lv_istore_n (lv' := [(1, .int 0), (0, .ref a0)]) hx hb dX11_bringBack_1 rfl hl (by decide) rfl (fun ls hl => ?_)
    exact J2 ((43 + 1 - Int32.toInt 0).toNat + 1) H locs ls 0 (iv_w (iv_c (by decide) : IV 0 0 0) (by decide)) hH hS (lv_sub hl [1, 0] rfl) (Nat.lt_succ_self _)
  exact J0 s.heap [] ls hH va_S.rf hl

set_option maxRecDepth 100000 in
theorem m_X11_lost (l : Launch) (D : va_G) (cT : Nat → ClassId) (T : Nat → Option Nat) (q : Nat → Int) (hT : tokm T) (hq : qkm q) (a0 : Nat) (t0 : T a0 = some 0) : th_Met l D cT T (km q) yX11_lost cX11_lost 3 (some .int) (rmk 0 0) [.ref a0] (th_R T (some (.inl (-2147483648, 2147483647)))) [] := by
  refine th_start (by decide) (Nat.le_of_ble_eq_true rfl) ?_
  intro p e s m below meth c ls S hK hH hr hlocks hnm hl
  have hx := S.1
  have hb := S.2.1
  have hl : lv_has ls 3 [(0, .ref a0)] := hl
  have J4 : ∀ (n : Nat) (H : Heap) (locs : List Loc) (ls : Array Slot) (v4_1 : Int32) (v4_2 : Int32), IV v4_1 (-2147483648) 2147483647 → IV v4_2 0 8 → th_H D cT T (km q) H → va_S (th_A T []) s.heap H locs → lv_has ls 3 [(0, .ref a0), (1, .int v4_1), (2, .int v4_2)] → (8 + 1 - Int32.toInt v4_2).toNat < n → W p l e (rmk 0 0) s m [.ref a0].toArray below meth c H locs 0 0 (MQ below (th_Q D cT T (km q) (th_R T (some (.inl (-2147483648, 2147483647)))) []) [.ref a0].toArray s 0 0 (th_A T [])) (F0 m 4 ls []) := by
    intro n
    induction n with
    | zero => intro H locs ls v4_1 v4_2 iv4_1 iv4_2 hH hS hl hn; exact absurd hn (Nat.not_lt_zero _)
    | succ n ih4 =>
      intro H locs ls v4_1 v4_2 iv4_1 iv4_2 hH hS hl hn4
      have J47 : ∀ (H : Heap) (locs : List Loc) (ls : Array Slot) (v47_1 : Int32), IV v47_1 (-2147483648) 2147483647 → IV v4_2 0 7 → th_H D cT T (km q) H → va_S (th_A T []) s.heap H locs → lv_has ls 3 [(0, .ref a0), (1, .int v47_1), (2, .int v4_2)] → W p l e (rmk 0 0) s m [.ref a0].toArray below meth c H locs 0 0 (MQ below (th_Q D cT T (km q) (th_R T (some (.inl (-2147483648, 2147483647)))) []) [.ref a0].toArray s 0 0 (th_A T [])) (F0 m 47 ls []) := by
        intro H locs ls v47_1 iv47_1 f47_v4_2 hH hS hl
        refine th_iinc S dX11_lost_47 hl (k := 2) rfl (by decide) f47_v4_2 (by decide) (fun x1 ls ex1 ix1 hl => ?_)
        have hl : lv_has ls 3 [(2, .int x1), (0, .ref a0), (1, .int v47_1)] := hl
        have ix1 : IV x1 1 8 := ix1
        refine lv_goto (tgt := 4) hx hb dX11_lost_50 (by decide) ?_
        exact ih4 H locs ls v47_1 x1 iv47_1 (iv_w ix1 (by decide)) hH hS (lv_sub hl [1, 2, 0] rfl) (th_up iv4_2 ex1 (by decide) hn4)
      have l1v4_2 := iv4_2.1; have l2v4_2 := iv4_2.2
      refine lv_iload_n hx hb dX11_lost_4 rfl (lv_at hl 2 rfl) ?_
      refine lv_aload_n hx hb dX11_lost_5 rfl (lv_at hl 0 rfl) ?_
      refine th_get S hK hH inG11 t0 km_0 rfl 13 (by decide) gm_1243 rfl rfl dX11_lost_6 (fun v2 hv2 fv2 => ?_)
      obtain ⟨rf3, rfl, trf3⟩ := th_V.ref hv2
      refine lv_aload_n hx hb dX11_lost_9 rfl (lv_at hl 0 rfl) ?_
      refine th_get S hK hH inG11 t0 km_0 rfl 41 (by decide) gm_1271 rfl rfl dX11_lost_10 (fun v4 hv4 fv4 => ?_)
      obtain ⟨x5, rfl, ix5⟩ := th_V.int hv4
      have kx5a : q 10 ≤ x5.toInt := ix5.1
      have kx5b : x5.toInt ≤ q 10 := ix5.2
      have ix5 : IV x5 0 1 := iv_w ix5 (qkm_10 hq)
      refine th_iald S hK hH trf3 km_5 (th_in (hi := 1) ix5 (by decide)) dX11_lost_13 (fun v6 hv6 => ?_)
      obtain ⟨x7, rfl, ix7⟩ := th_bkA hv6 ix5 (by omega)
      have kx7a : q 18 ≤ x7.toInt := ix7.1
      have kx7b : x7.toInt ≤ q 18 := ix7.2
      have ix7 : IV x7 0 8 := iv_w ix7 (qkm_18 hq)
      refine lv_icmp_ge (tgt := 53) hx hb dX11_lost_14 (by decide) (fun c8 => ?_) (fun c8 => ?_)
      · skip
        have rlc8 : x7.toInt ≤ v4_2.toInt := iv_le c8
        refine lv_iload_n hx hb dX11_lost_53 rfl (lv_at hl 1 rfl) ?_
        exact th_iret S hK hH hS hr hlocks (th_R.i iv4_1) dX11_lost_54
      · skip
        have rlc8 : v4_2.toInt < x7.toInt := iv_nle c8
        have ir9 : IV v4_2 0 7 := iv_uL iv4_2 ix7 (iv_nle c8) (by decide)
        have ir9a := ir9.1; have ir9b := ir9.2
        have ir10 : IV x7 1 8 := iv_uR iv4_2 ix7 (iv_nle c8) (by decide)
        have ir10a := ir10.1; have ir10b := ir10.2
        refine lv_aload_n hx hb dX11_lost_17 rfl (lv_at hl 0 rfl) ?_
        refine th_get S hK hH inG11 t0 km_0 rfl 52 (by decide) gm_1282 rfl rfl dX11_lost_18 (fun v11 hv11 fv11 => ?_)
        obtain ⟨rf12, rfl, trf12⟩ := th_V.ref hv11
        refine lv_bipush (v := 15) hx hb dX11_lost_21 (by decide) ?_
        refine lv_iload_n hx hb dX11_lost_23 rfl (lv_at hl 2 rfl) ?_
        refine lv_iadd hx hb dX11_lost_24 ?_
        refine lv_topi (fun x13 ex13 => ?_)
        have ix13 : IV x13 15 22 := by rw [ex13]; exact iv_add (iv_c (by decide) : IV 15 15 15) ir9 (by decide)
        have ux13 : x13.toInt = (15 : Int) + v4_2.toInt := by rw [ex13]; exact iv_addE (by have z1 := ((iv_c (by decide) : IV 15 15 15)).1; have z2 := ((iv_c (by decide) : IV 15 15 15)).2; have z3 := (ir9).1; have z4 := (ir9).2; omega)
        refine th_iald S hK hH trf12 km_33 (th_in (hi := 22) (iv_w ix13 (by decide)) (by decide)) dX11_lost_25 (fun v14 hv14 => ?_)
        obtain ⟨x15, rfl, ix15⟩ := th_V.int hv14
        refine lv_if_ne (tgt := 47) hx hb dX11_lost_26 (by decide) (fun c16 => ?_) (fun c16 => ?_)
        · skip
          have rlc16 : x15.toInt ≠ (0 : Int) := iv_ne c16
          exact J47 H locs ls v4_1 iv4_1 ir9 hH hS (lv_sub hl [0, 1, 2] rfl)
        · skip
          have rlc16 : x15.toInt = (0 : Int) := congrArg Int32.toInt c16
          have ir17 : IV x15 0 0 := iv_eL c16 (iv_c (by decide) : IV 0 0 0)
          have ir17a := ir17.1; have ir17b := ir17.2
          refine lv_aload_n hx hb dX11_lost_29 rfl (lv_at hl 0 rfl) ?_
          refine th_get S hK hH inG11 t0 km_0 rfl 56 (by decide) gm_1286 rfl rfl dX11_lost_30 (fun v18 hv18 fv18 => ?_)
          obtain ⟨rf19, rfl, trf19⟩ := th_V.ref hv18
          refine lv_bipush (v := 15) hx hb dX11_lost_33 (by decide) ?_
          refine lv_iload_n hx hb dX11_lost_35 rfl (lv_at hl 2 rfl) ?_
          refine lv_iadd hx hb dX11_lost_36 ?_
          refine lv_topi (fun x20 ex20 => ?_)
          have zx20 : x13 = x20 := ex13.trans ex20.symm
          subst zx20
          refine th_iald S hK hH trf19 km_35 (th_in (hi := 22) (iv_w ix13 (by decide)) (by decide)) dX11_lost_37 (fun v21 hv21 => ?_)
          obtain ⟨x22, rfl, ix22⟩ := th_V.int hv21
          refine lv_if_le (tgt := 47) hx hb dX11_lost_38 (by decide) (fun c23 => ?_) (fun c23 => ?_)
          · skip
            have rlc23 : x22.toInt ≤ (0 : Int) := iv_le c23
            have ir24 : IV x22 (-2147483648) 0 := iv_vL ix22 (iv_c (by decide) : IV 0 0 0) (iv_le c23) (by decide)
            have ir24a := ir24.1; have ir24b := ir24.2
            exact J47 H locs ls v4_1 iv4_1 ir9 hH hS (lv_sub hl [0, 1, 2] rfl)
          · skip
            have rlc23 : (0 : Int) < x22.toInt := iv_nle c23
            have ir25 : IV x22 1 2147483647 := iv_uR (iv_c (by decide) : IV 0 0 0) ix22 (iv_nle c23) (by decide)
            have ir25a := ir25.1; have ir25b := ir25.2
            refine lv_iload_n hx hb dX11_lost_41 rfl (lv_at hl 1 rfl) ?_
            refine lv_iconst (v := 1) hx hb dX11_lost_42 (by decide) ?_
            refine lv_iload_n hx hb dX11_lost_43 rfl (lv_at hl 2 rfl) ?_
            refine lv_ishl hx hb dX11_lost_44 ?_
            refine lv_topi (fun x26 ex26 => ?_)
            have ix26 := iv_top x26
            have ix26 : IV x26 1 1073741824 := by rw [ex26]; exact iv_shl1 (iv_w ir9 (by decide))
            refine lv_ior hx hb dX11_lost_45 ?_
            refine lv_topi (fun x27 ex27 => ?_)
            have ix27 := iv_top x27
            refine lv_istore_n (lv' := [(1, .int x27), (0, .ref a0), (2, .int v4_2)]) hx hb dX11_lost_46 rfl hl (by decide) rfl (fun ls hl => ?_)
            exact J47 H locs ls x27 ix27 ir9 hH hS (lv_sub hl [1, 0, 2] rfl)
  have J0 : ∀ (H : Heap) (locs : List Loc) (ls : Array Slot), th_H D cT T (km q) H → va_S (th_A T []) s.heap H locs → lv_has ls 3 [(0, .ref a0)] → W p l e (rmk 0 0) s m [.ref a0].toArray below meth c H locs 0 0 (MQ below (th_Q D cT T (km q) (th_R T (some (.inl (-2147483648, 2147483647)))) []) [.ref a0].toArray s 0 0 (th_A T [])) (F0 m 0 ls []) := by
    intro H locs ls hH hS hl
    refine lv_iconst (v := 0) hx hb dX11_lost_0 (by decide) ?_
    refine lv_istore_n (lv' := [(1, .int 0), (0, .ref a0)]) hx hb dX11_lost_1 rfl hl (by decide) rfl (fun ls hl => ?_)
    refine lv_iconst (v := 0) hx hb dX11_lost_2 (by decide) ?_
    refine lv_istore_n (lv' := [(2, .int 0), (1, .int 0), (0, .ref a0)]) hx hb dX11_lost_3 rfl hl (by decide) rfl (fun ls hl => ?_)
    exact J4 ((8 + 1 - Int32.toInt 0).toNat + 1) H locs ls 0 0 (iv_top _) (iv_w (iv_c (by decide) : IV 0 0 0) (by decide)) hH hS (lv_sub hl [2, 1, 0] rfl) (Nat.lt_succ_self _)
  exact J0 s.heap [] ls hH va_S.rf hl

set_option maxRecDepth 100000 in
theorem m_X11_landNow (l : Launch) (D : va_G) (cT : Nat → ClassId) (T : Nat → Option Nat) (q : Nat → Int) (hT : tokm T) (hq : qkm q) (a0 : Nat) (t0 : T a0 = some 0) : th_Met l D cT T (km q) yX11_landNow cX11_landNow 3 (some .int) (rmk 0 0) [.ref a0] (th_R T (some (.inl (-2147483648, 2147483647)))) [] := by
  refine th_start (by decide) (Nat.le_of_ble_eq_true rfl) ?_
  intro p e s m below meth c ls S hK hH hr hlocks hnm hl
  have hx := S.1
  have hb := S.2.1
  have hl : lv_has ls 3 [(0, .ref a0)] := hl
  have J4 : ∀ (n : Nat) (H : Heap) (locs : List Loc) (ls : Array Slot) (v4_1 : Int32) (v4_2 : Int32), IV v4_1 (-2147483648) 2147483647 → IV v4_2 0 8 → th_H D cT T (km q) H → va_S (th_A T []) s.heap H locs → lv_has ls 3 [(0, .ref a0), (1, .int v4_1), (2, .int v4_2)] → (8 + 1 - Int32.toInt v4_2).toNat < n → W p l e (rmk 0 0) s m [.ref a0].toArray below meth c H locs 0 0 (MQ below (th_Q D cT T (km q) (th_R T (some (.inl (-2147483648, 2147483647)))) []) [.ref a0].toArray s 0 0 (th_A T [])) (F0 m 4 ls []) := by
    intro n
    induction n with
    | zero => intro H locs ls v4_1 v4_2 iv4_1 iv4_2 hH hS hl hn; exact absurd hn (Nat.not_lt_zero _)
    | succ n ih4 =>
      intro H locs ls v4_1 v4_2 iv4_1 iv4_2 hH hS hl hn4
      have l1v4_2 := iv4_2.1; have l2v4_2 := iv4_2.2
      refine lv_iload_n hx hb dX11_landNow_4 rfl (lv_at hl 2 rfl) ?_
      refine lv_aload_n hx hb dX11_landNow_5 rfl (lv_at hl 0 rfl) ?_
      refine th_get S hK hH inG11 t0 km_0 rfl 13 (by decide) gm_1243 rfl rfl dX11_landNow_6 (fun v1 hv1 fv1 => ?_)
      obtain ⟨rf2, rfl, trf2⟩ := th_V.ref hv1
      refine lv_aload_n hx hb dX11_landNow_9 rfl (lv_at hl 0 rfl) ?_
      refine th_get S hK hH inG11 t0 km_0 rfl 41 (by decide) gm_1271 rfl rfl dX11_landNow_10 (fun v3 hv3 fv3 => ?_)
      obtain ⟨x4, rfl, ix4⟩ := th_V.int hv3
      have kx4a : q 10 ≤ x4.toInt := ix4.1
      have kx4b : x4.toInt ≤ q 10 := ix4.2
      have ix4 : IV x4 0 1 := iv_w ix4 (qkm_10 hq)
      refine th_iald S hK hH trf2 km_5 (th_in (hi := 1) ix4 (by decide)) dX11_landNow_13 (fun v5 hv5 => ?_)
      obtain ⟨x6, rfl, ix6⟩ := th_bkA hv5 ix4 (by omega)
      have kx6a : q 18 ≤ x6.toInt := ix6.1
      have kx6b : x6.toInt ≤ q 18 := ix6.2
      have ix6 : IV x6 0 8 := iv_w ix6 (qkm_18 hq)
      refine lv_icmp_ge (tgt := 50) hx hb dX11_landNow_14 (by decide) (fun c7 => ?_) (fun c7 => ?_)
      · skip
        have rlc7 : x6.toInt ≤ v4_2.toInt := iv_le c7
        refine lv_iload_n hx hb dX11_landNow_50 rfl (lv_at hl 1 rfl) ?_
        exact th_iret S hK hH hS hr hlocks (th_R.i iv4_1) dX11_landNow_51
      · skip
        have rlc7 : v4_2.toInt < x6.toInt := iv_nle c7
        have ir8 : IV v4_2 0 7 := iv_uL iv4_2 ix6 (iv_nle c7) (by decide)
        have ir8a := ir8.1; have ir8b := ir8.2
        have ir9 : IV x6 1 8 := iv_uR iv4_2 ix6 (iv_nle c7) (by decide)
        have ir9a := ir9.1; have ir9b := ir9.2
        refine lv_iload_n hx hb dX11_landNow_17 rfl (lv_at hl 1 rfl) ?_
        refine lv_aload_n hx hb dX11_landNow_18 rfl (lv_at hl 0 rfl) ?_
        refine th_get S hK hH inG11 t0 km_0 rfl 52 (by decide) gm_1282 rfl rfl dX11_landNow_19 (fun v10 hv10 fv10 => ?_)
        obtain ⟨rf11, rfl, trf11⟩ := th_V.ref hv10
        refine lv_bipush (v := 15) hx hb dX11_landNow_22 (by decide) ?_
        refine lv_iload_n hx hb dX11_landNow_24 rfl (lv_at hl 2 rfl) ?_
        refine lv_iadd hx hb dX11_landNow_25 ?_
        refine lv_topi (fun x12 ex12 => ?_)
        have ix12 : IV x12 15 22 := by rw [ex12]; exact iv_add (iv_c (by decide) : IV 15 15 15) ir8 (by decide)
        have ux12 : x12.toInt = (15 : Int) + v4_2.toInt := by rw [ex12]; exact iv_addE (by have z1 := ((iv_c (by decide) : IV 15 15 15)).1; have z2 := ((iv_c (by decide) : IV 15 15 15)).2; have z3 := (ir8).1; have z4 := (ir8).2; omega)
        refine th_iald S hK hH trf11 km_33 (th_in (hi := 22) (iv_w ix12 (by decide)) (by decide)) dX11_landNow_26 (fun v13 hv13 => ?_)
        obtain ⟨x14, rfl, ix14⟩ := th_V.int hv13
        refine lv_aload_n hx hb dX11_landNow_27 rfl (lv_at hl 0 rfl) ?_
        refine th_get S hK hH inG11 t0 km_0 rfl 24 (by decide) gm_1254 rfl rfl dX11_landNow_28 (fun v15 hv15 fv15 => ?_)
        obtain ⟨rf16, rfl, trf16⟩ := th_V.ref hv15
        refine lv_bipush (v := 8) hx hb dX11_landNow_31 (by decide) ?_
        refine lv_aload_n hx hb dX11_landNow_33 rfl (lv_at hl 0 rfl) ?_
        refine th_get S hK hH inG11 t0 km_0 rfl 41 (by decide) gm_1271 rfl rfl dX11_landNow_34 (fun v17 hv17 fv17 => ?_)
        obtain ⟨x18, rfl, ix18⟩ := th_V.int hv17
        have kx18a : q 10 ≤ x18.toInt := ix18.1
        have kx18b : x18.toInt ≤ q 10 := ix18.2
        have ix18 : IV x18 0 1 := iv_w ix18 (qkm_10 hq)
        refine lv_imul hx hb dX11_landNow_37 ?_
        refine lv_topi (fun x19 ex19 => ?_)
        have ix19 : IV x19 0 8 := by rw [ex19]; exact iv_mul (iv_c (by decide) : IV 8 8 8) ix18 (by decide) (by decide)
        have ux19 : x19.toInt = (8 : Int) * x18.toInt := by rw [ex19]; exact iv_mulE (iv_corner ((iv_c (by decide) : IV 8 8 8)).1 ((iv_c (by decide) : IV 8 8 8)).2 (ix18).1 (ix18).2 (by decide))
        refine lv_iload_n hx hb dX11_landNow_38 rfl (lv_at hl 2 rfl) ?_
        refine lv_iadd hx hb dX11_landNow_39 ?_
        refine lv_topi (fun x20 ex20 => ?_)
        have ix20 : IV x20 0 15 := by rw [ex20]; exact iv_add ix19 ir8 (by decide)
        have ux20 : x20.toInt = x19.toInt + v4_2.toInt := by rw [ex20]; exact iv_addE (by have z1 := (ix19).1; have z2 := (ix19).2; have z3 := (ir8).1; have z4 := (ir8).2; omega)
        refine th_iald S hK hH trf16 km_16 (th_in (hi := 15) ix20 (by decide)) dX11_landNow_40 (fun v21 hv21 => ?_)
        obtain ⟨x22, rfl, ix22⟩ := th_V.int hv21
        refine lv_imul hx hb dX11_landNow_41 ?_
        refine lv_topi (fun x23 ex23 => ?_)
        have ix23 := iv_top x23
        refine lv_iadd hx hb dX11_landNow_42 ?_
        refine lv_topi (fun x24 ex24 => ?_)
        have ix24 := iv_top x24
        refine lv_istore_n (lv' := [(1, .int x24), (0, .ref a0), (2, .int v4_2)]) hx hb dX11_landNow_43 rfl hl (by decide) rfl (fun ls hl => ?_)
        refine th_iinc S dX11_landNow_44 hl (k := 2) rfl (by decide) ir8 (by decide) (fun x25 ls ex25 ix25 hl => ?_)
        have hl : lv_has ls 3 [(2, .int x25), (1, .int x24), (0, .ref a0)] := hl
        have ix25 : IV x25 1 8 := ix25
        refine lv_goto (tgt := 4) hx hb dX11_landNow_47 (by decide) ?_
        exact ih4 H locs ls x24 x25 ix24 (iv_w ix25 (by decide)) hH hS (lv_sub hl [2, 1, 0] rfl) (th_up iv4_2 ex25 (by decide) hn4)
  have J0 : ∀ (H : Heap) (locs : List Loc) (ls : Array Slot), th_H D cT T (km q) H → va_S (th_A T []) s.heap H locs → lv_has ls 3 [(0, .ref a0)] → W p l e (rmk 0 0) s m [.ref a0].toArray below meth c H locs 0 0 (MQ below (th_Q D cT T (km q) (th_R T (some (.inl (-2147483648, 2147483647)))) []) [.ref a0].toArray s 0 0 (th_A T [])) (F0 m 0 ls []) := by
    intro H locs ls hH hS hl
    refine lv_iconst (v := 0) hx hb dX11_landNow_0 (by decide) ?_
    refine lv_istore_n (lv' := [(1, .int 0), (0, .ref a0)]) hx hb dX11_landNow_1 rfl hl (by decide) rfl (fun ls hl => ?_)
    refine lv_iconst (v := 0) hx hb dX11_landNow_2 (by decide) ?_
    refine lv_istore_n (lv' := [(2, .int 0), (1, .int 0), (0, .ref a0)]) hx hb dX11_landNow_3 rfl hl (by decide) rfl (fun ls hl => ?_)
    exact J4 ((8 + 1 - Int32.toInt 0).toNat + 1) H locs ls 0 0 (iv_top _) (iv_w (iv_c (by decide) : IV 0 0 0) (by decide)) hH hS (lv_sub hl [2, 1, 0] rfl) (Nat.lt_succ_self _)
  exact J0 s.heap [] ls hH va_S.rf hl

set_option maxRecDepth 100000 in
theorem m_X11_hungry (l : Launch) (D : va_G) (cT : Nat → ClassId) (T : Nat → Option Nat) (q : Nat → Int) (hT : tokm T) (hq : qkm q) (a0 : Nat) (t0 : T a0 = some 0) : th_Met l D cT T (km q) yX11_hungry cX11_hungry 3 (some .int) (rmk 3 69) [.ref a0] (th_R T (some (.inl (-2147483648, 2147483647)))) [0, 32] := by
  refine th_start (by decide) (Nat.le_of_ble_eq_true rfl) ?_
  intro p e s m below meth c ls S hK hH hr hlocks hnm hl
  have hx := S.1
  have hb := S.2.1
  have hl : lv_has ls 3 [(0, .ref a0)] := hl
  have J4 : ∀ (n : Nat) (H : Heap) (locs : List Loc) (ls : Array Slot) (v4_1 : Int32) (v4_2 : Int32), IV v4_1 (-2147483648) 2147483647 → IV v4_2 0 4 → th_H D cT T (km q) H → va_S (th_A T [0, 32]) s.heap H locs → lv_has ls 3 [(0, .ref a0), (1, .int v4_1), (2, .int v4_2)] → (4 + 1 - Int32.toInt v4_2).toNat < n → W p l e (rmk 3 69) s m [.ref a0].toArray below meth c H locs 0 0 (MQ below (th_Q D cT T (km q) (th_R T (some (.inl (-2147483648, 2147483647)))) [0, 32]) [.ref a0].toArray s 0 0 (th_A T [0, 32])) (F0 m 4 ls []) := by
    intro n
    induction n with
    | zero => intro H locs ls v4_1 v4_2 iv4_1 iv4_2 hH hS hl hn; exact absurd hn (Nat.not_lt_zero _)
    | succ n ih4 =>
      intro H locs ls v4_1 v4_2 iv4_1 iv4_2 hH hS hl hn4
      have J31 : ∀ (H : Heap) (locs : List Loc) (ls : Array Slot) (v31_1 : Int32), IV v31_1 (-2147483648) 2147483647 → IV v4_2 0 3 → th_H D cT T (km q) H → va_S (th_A T [0, 32]) s.heap H locs → lv_has ls 3 [(0, .ref a0), (1, .int v31_1), (2, .int v4_2)] → W p l e (rmk 3 69) s m [.ref a0].toArray below meth c H locs 0 0 (MQ below (th_Q D cT T (km q) (th_R T (some (.inl (-2147483648, 2147483647)))) [0, 32]) [.ref a0].toArray s 0 0 (th_A T [0, 32])) (F0 m 31 ls []) := by
        intro H locs ls v31_1 iv31_1 f31_v4_2 hH hS hl
        refine th_iinc S dX11_hungry_31 hl (k := 2) rfl (by decide) f31_v4_2 (by decide) (fun x1 ls ex1 ix1 hl => ?_)
        have hl : lv_has ls 3 [(2, .int x1), (0, .ref a0), (1, .int v31_1)] := hl
        have ix1 : IV x1 1 4 := ix1
        refine lv_goto (tgt := 4) hx hb dX11_hungry_34 (by decide) ?_
        exact ih4 H locs ls v31_1 x1 iv31_1 (iv_w ix1 (by decide)) hH hS (lv_sub hl [1, 2, 0] rfl) (th_up iv4_2 ex1 (by decide) hn4)
      have l1v4_2 := iv4_2.1; have l2v4_2 := iv4_2.2
      refine lv_iload_n hx hb dX11_hungry_4 rfl (lv_at hl 2 rfl) ?_
      refine lv_aload_n hx hb dX11_hungry_5 rfl (lv_at hl 0 rfl) ?_
      refine th_callVp (n := 0) (As := []) S hK hH hS (th_A.sub (by decide)) (m_X11_many l D cT T q hT hq a0 t0) gm_1229 gm_1226 gm_1228 gm_46 gm_124 (by decide +kernel) ⟨rfl, rfl, Nat.le_of_ble_eq_true rfl, Nat.le_of_ble_eq_true rfl⟩ t0 km_0 rfl rfl hl.1 rfl (Nat.le_of_ble_eq_true rfl) dX11_hungry_6 ⟨Nat.zero_le _, Nat.zero_le _⟩ (fun x2 H locs ix2 ox2 hH hS hF1 => ?_)
      have ox2 : x2.toInt = q 11 := ox2
      refine lv_icmp_ge (tgt := 37) hx hb dX11_hungry_9 (by decide) (fun c3 => ?_) (fun c3 => ?_)
      · skip
        have rlc3 : x2.toInt ≤ v4_2.toInt := iv_le c3
        refine lv_iload_n hx hb dX11_hungry_37 rfl (lv_at hl 1 rfl) ?_
        exact th_iret S hK hH hS hr hlocks (th_R.i iv4_1) dX11_hungry_38
      · skip
        have rlc3 : v4_2.toInt < x2.toInt := iv_nle c3
        have ir4 : IV v4_2 0 3 := iv_uL iv4_2 ix2 (iv_nle c3) (by decide)
        have ir4a := ir4.1; have ir4b := ir4.2
        have ir5 : IV x2 1 4 := iv_uR iv4_2 ix2 (iv_nle c3) (by decide)
        have ir5a := ir5.1; have ir5b := ir5.2
        refine lv_aload_n hx hb dX11_hungry_12 rfl (lv_at hl 0 rfl) ?_
        refine lv_iload_n hx hb dX11_hungry_13 rfl (lv_at hl 2 rfl) ?_
        refine th_callVi (n := 1) (As := [.int v4_2]) S hK hH hS (th_A.sub (by decide)) (m_X11_givenTo l D cT T q hT hq a0 t0 (v4_2) ir4) gm_1652 gm_1649 gm_1651 gm_85 gm_124 (by decide +kernel) ⟨rfl, rfl, Nat.le_of_ble_eq_true rfl, Nat.le_of_ble_eq_true rfl⟩ t0 km_0 rfl rfl hl.1 rfl (Nat.le_of_ble_eq_true rfl) dX11_hungry_14 ⟨Nat.zero_le _, Nat.zero_le _⟩ (fun x6 H locs ix6 hH hS hF1 => ?_)
        refine lv_aload_n hx hb dX11_hungry_17 rfl (lv_at hl 0 rfl) ?_
        refine lv_iload_n hx hb dX11_hungry_18 rfl (lv_at hl 2 rfl) ?_
        refine th_callVi (n := 1) (As := [.int v4_2]) S hK hH hS (th_A.sub (by decide)) (m_X11_hungerOf l D cT T q hT hq a0 t0 (v4_2) ir4 (show v4_2.toInt < q 11 by first | assumption | omega)) gm_1630 gm_1627 gm_1629 gm_81 gm_124 (by decide +kernel) ⟨rfl, rfl, Nat.le_of_ble_eq_true rfl, Nat.le_of_ble_eq_true rfl⟩ t0 km_0 rfl rfl hl.1 rfl (Nat.le_of_ble_eq_true rfl) dX11_hungry_19 ⟨Nat.zero_le _, Nat.zero_le _⟩ (fun x7 H locs ix7 hH hS hF1 => ?_)
        refine lv_icmp_ge (tgt := 31) hx hb dX11_hungry_22 (by decide) (fun c8 => ?_) (fun c8 => ?_)
        · skip
          have rlc8 : x7.toInt ≤ x6.toInt := iv_le c8
          exact J31 H locs ls v4_1 iv4_1 ir4 hH hS (lv_sub hl [0, 1, 2] rfl)
        · skip
          have rlc8 : x6.toInt < x7.toInt := iv_nle c8
          have ir9 : IV x6 (-2147483648) 98 := iv_uL ix6 ix7 (iv_nle c8) (by decide)
          have ir9a := ir9.1; have ir9b := ir9.2
          have ir10 : IV x7 (-2147483647) 99 := iv_uR ix6 ix7 (iv_nle c8) (by decide)
          have ir10a := ir10.1; have ir10b := ir10.2
          refine lv_iload_n hx hb dX11_hungry_25 rfl (lv_at hl 1 rfl) ?_
          refine lv_iconst (v := 1) hx hb dX11_hungry_26 (by decide) ?_
          refine lv_iload_n hx hb dX11_hungry_27 rfl (lv_at hl 2 rfl) ?_
          refine lv_ishl hx hb dX11_hungry_28 ?_
          refine lv_topi (fun x11 ex11 => ?_)
          have ix11 := iv_top x11
          have ix11 : IV x11 1 1073741824 := by rw [ex11]; exact iv_shl1 (iv_w ir4 (by decide))
          refine lv_ior hx hb dX11_hungry_29 ?_
          refine lv_topi (fun x12 ex12 => ?_)
          have ix12 := iv_top x12
          refine lv_istore_n (lv' := [(1, .int x12), (0, .ref a0), (2, .int v4_2)]) hx hb dX11_hungry_30 rfl hl (by decide) rfl (fun ls hl => ?_)
          exact J31 H locs ls x12 ix12 ir4 hH hS (lv_sub hl [1, 0, 2] rfl)
  have J0 : ∀ (H : Heap) (locs : List Loc) (ls : Array Slot), th_H D cT T (km q) H → va_S (th_A T [0, 32]) s.heap H locs → lv_has ls 3 [(0, .ref a0)] → W p l e (rmk 3 69) s m [.ref a0].toArray below meth c H locs 0 0 (MQ below (th_Q D cT T (km q) (th_R T (some (.inl (-2147483648, 2147483647)))) [0, 32]) [.ref a0].toArray s 0 0 (th_A T [0, 32])) (F0 m 0 ls []) := by
    intro H locs ls hH hS hl
    refine lv_iconst (v := 0) hx hb dX11_hungry_0 (by decide) ?_
    refine lv_istore_n (lv' := [(1, .int 0), (0, .ref a0)]) hx hb dX11_hungry_1 rfl hl (by decide) rfl (fun ls hl => ?_)
    refine lv_iconst (v := 0) hx hb dX11_hungry_2 (by decide) ?_
    refine lv_istore_n (lv' := [(2, .int 0), (1, .int 0), (0, .ref a0)]) hx hb dX11_hungry_3 rfl hl (by decide) rfl (fun ls hl => ?_)
    exact J4 ((4 + 1 - Int32.toInt 0).toNat + 1) H locs ls 0 0 (iv_top _) (iv_w (iv_c (by decide) : IV 0 0 0) (by decide)) hH hS (lv_sub hl [2, 1, 0] rfl) (Nat.lt_succ_self _)
  exact J0 s.heap [] ls hH va_S.rf hl

set_option maxRecDepth 100000 in
theorem m_X11_needs (l : Launch) (D : va_G) (cT : Nat → ClassId) (T : Nat → Option Nat) (q : Nat → Int) (hT : tokm T) (hq : qkm q) (a0 : Nat) (t0 : T a0 = some 0) (y1 : Int32) (j1 : IV y1 (-2147483648) 2147483647) (y2 : Int32) (j2 : IV y2 (-2147483648) 2147483647) : th_Met l D cT T (km q) yX11_needs cX11_needs 5 (some .int) (rmk 3 69) [.ref a0, .int y1, .int y2] (th_R T (some (.inl (-2147483648, 2147483647)))) [0, 32] := by
  refine th_start (by decide) (Nat.le_of_ble_eq_true rfl) ?_
  intro p e s m below meth c ls S hK hH hr hlocks hnm hl
  have hx := S.1
  have hb := S.2.1
  have hl : lv_has ls 5 [(0, .ref a0), (1, .int y1), (2, .int y2)] := hl
  have J62 : ∀ (H : Heap) (locs : List Loc) (ls : Array Slot) (w62_0 : Int32), IV w62_0 (-2147483648) 2147483647 → th_H D cT T (km q) H → va_S (th_A T [0, 32]) s.heap H locs → lv_has ls 5 [] → W p l e (rmk 3 69) s m [.ref a0, .int y1, .int y2].toArray below meth c H locs 0 0 (MQ below (th_Q D cT T (km q) (th_R T (some (.inl (-2147483648, 2147483647)))) [0, 32]) [.ref a0, .int y1, .int y2].toArray s 0 0 (th_A T [0, 32])) (F0 m 62 ls [.int w62_0]) := by
    intro H locs ls w62_0 iw62_0 hH hS hl
    exact th_iret S hK hH hS hr hlocks (th_R.i iw62_0) dX11_needs_62
  have J62_s0_m1 : ∀ (H : Heap) (locs : List Loc) (ls : Array Slot), th_H D cT T (km q) H → va_S (th_A T [0, 32]) s.heap H locs → lv_has ls 5 [] → W p l e (rmk 3 69) s m [.ref a0, .int y1, .int y2].toArray below meth c H locs 0 0 (MQ below (th_Q D cT T (km q) (th_R T (some (.inl (-2147483648, 2147483647)))) [0, 32]) [.ref a0, .int y1, .int y2].toArray s 0 0 (th_A T [0, 32])) (F0 m 62 ls [.int (-1)]) := by
    intro H locs ls hH hS hl
    exact th_iret S hK hH hS hr hlocks (th_R.i (iv_top _)) dX11_needs_62
  have J16 : ∀ (H : Heap) (locs : List Loc) (ls : Array Slot), th_H D cT T (km q) H → va_S (th_A T [0, 32]) s.heap H locs → lv_has ls 5 [] → W p l e (rmk 3 69) s m [.ref a0, .int y1, .int y2].toArray below meth c H locs 0 0 (MQ below (th_Q D cT T (km q) (th_R T (some (.inl (-2147483648, 2147483647)))) [0, 32]) [.ref a0, .int y1, .int y2].toArray s 0 0 (th_A T [0, 32])) (F0 m 16 ls []) := by
    intro H locs ls hH hS hl
    refine lv_iconst (v := (-1)) hx hb dX11_needs_16 (by decide) ?_
    exact th_iret S hK hH hS hr hlocks (th_R.i (iv_top _)) dX11_needs_17
  have J0 : ∀ (H : Heap) (locs : List Loc) (ls : Array Slot), th_H D cT T (km q) H → va_S (th_A T [0, 32]) s.heap H locs → lv_has ls 5 [(0, .ref a0), (1, .int y1), (2, .int y2)] → W p l e (rmk 3 69) s m [.ref a0, .int y1, .int y2].toArray below meth c H locs 0 0 (MQ below (th_Q D cT T (km q) (th_R T (some (.inl (-2147483648, 2147483647)))) [0, 32]) [.ref a0, .int y1, .int y2].toArray s 0 0 (th_A T [0, 32])) (F0 m 0 ls []) := by
    intro H locs ls hH hS hl
    refine lv_aload_n hx hb dX11_needs_0 rfl (lv_at hl 0 rfl) ?_
    refine lv_iload_n hx hb dX11_needs_1 rfl (lv_at hl 1 rfl) ?_
    refine th_callVp (n := 1) (As := [.int y1]) S hK hH hS (th_A.sub (by decide)) (m_X11_isMap l D cT T q hT hq a0 t0 (y1) j1) gm_1626 gm_1623 gm_1625 gm_80 gm_124 (by decide +kernel) ⟨rfl, rfl, Nat.le_of_ble_eq_true rfl, Nat.le_of_ble_eq_true rfl⟩ t0 km_0 rfl rfl hl.1 rfl (Nat.le_of_ble_eq_true rfl) dX11_needs_2 ⟨Nat.zero_le _, Nat.zero_le _⟩ (fun x1 H locs ix1 ox1 hH hS hF1 => ?_)
    have ox1 : x1.toInt ≠ 0 → 0 ≤ y1.toInt ∧ y1.toInt < q 11 := ox1
    refine lv_if_eq (tgt := 16) hx hb dX11_needs_5 (by decide) (fun c2 => ?_) (fun c2 => ?_)
    · skip
      have rlc2 : x1.toInt = (0 : Int) := congrArg Int32.toInt c2
      have ir3 : IV x1 0 0 := iv_eL c2 (iv_c (by decide) : IV 0 0 0)
      have ir3a := ir3.1; have ir3b := ir3.2
      exact J16 H locs ls  hH hS (lv_sub hl [] rfl)
    · skip
      have rlc2 : x1.toInt ≠ (0 : Int) := iv_ne c2
      have ir4 : IV x1 1 1 := iv_cutL ix1 (iv_c (by decide) : IV 0 0 0) c2 (by decide)
      have ir4a := ir4.1; have ir4b := ir4.2
      have ir5 : IV y1 0 3 := ((fun z => by have z1 := iv_ne z; have z2 : x1.toInt ≠ 0 := z1; have z60 := qkm_11 hq; exact ⟨by omega, by omega⟩) : ¬ x1 = 0 → IV y1 0 3) c2
      have ir5a := ir5.1; have ir5b := ir5.2
      refine lv_aload_n hx hb dX11_needs_8 rfl (lv_at hl 0 rfl) ?_
      refine lv_iload_n hx hb dX11_needs_9 rfl (lv_at hl 2 rfl) ?_
      refine th_callVp (n := 1) (As := [.int y2]) S hK hH hS (th_A.sub (by decide)) (m_X11_isFood l D cT T q hT hq a0 t0 (y2) j2) gm_1615 gm_1612 gm_1614 gm_79 gm_124 (by decide +kernel) ⟨rfl, rfl, Nat.le_of_ble_eq_true rfl, Nat.le_of_ble_eq_true rfl⟩ t0 km_0 rfl rfl hl.1 rfl (Nat.le_of_ble_eq_true rfl) dX11_needs_10 ⟨Nat.zero_le _, Nat.zero_le _⟩ (fun x6 H locs ix6 ox6 hH hS hF1 => ?_)
      have ox6 : x6.toInt ≠ 0 → 0 ≤ y2.toInt ∧ y2.toInt < q 16 := ox6
      refine lv_if_ne (tgt := 18) hx hb dX11_needs_13 (by decide) (fun c7 => ?_) (fun c7 => ?_)
      · skip
        have rlc7 : x6.toInt ≠ (0 : Int) := iv_ne c7
        have ir8 : IV x6 1 1 := iv_cutL ix6 (iv_c (by decide) : IV 0 0 0) c7 (by decide)
        have ir8a := ir8.1; have ir8b := ir8.2
        have ir9 : IV y2 0 2 := ((fun z => by have z1 := iv_ne z; have z2 : x6.toInt ≠ 0 := z1; have z60 := qkm_16 hq; exact ⟨by omega, by omega⟩) : ¬ x6 = 0 → IV y2 0 2) c7
        have ir9a := ir9.1; have ir9b := ir9.2
        refine lv_aload_n hx hb dX11_needs_18 rfl (lv_at hl 0 rfl) ?_
        refine lv_iload_n hx hb dX11_needs_19 rfl (lv_at hl 1 rfl) ?_
        refine th_callVi (n := 1) (As := [.int y1]) S hK hH hS (th_A.sub (by decide)) (m_X11_hungerOf l D cT T q hT hq a0 t0 (y1) ir5 (show y1.toInt < q 11 by first | assumption | omega)) gm_1630 gm_1627 gm_1629 gm_81 gm_124 (by decide +kernel) ⟨rfl, rfl, Nat.le_of_ble_eq_true rfl, Nat.le_of_ble_eq_true rfl⟩ t0 km_0 rfl rfl hl.1 rfl (Nat.le_of_ble_eq_true rfl) dX11_needs_20 ⟨Nat.zero_le _, Nat.zero_le _⟩ (fun x10 H locs ix10 hH hS hF1 => ?_)
        refine lv_aload_n hx hb dX11_needs_23 rfl (lv_at hl 0 rfl) ?_
        refine lv_iload_n hx hb dX11_needs_24 rfl (lv_at hl 1 rfl) ?_
        refine th_callVi (n := 1) (As := [.int y1]) S hK hH hS (th_A.sub (by decide)) (m_X11_givenTo l D cT T q hT hq a0 t0 (y1) ir5) gm_1652 gm_1649 gm_1651 gm_85 gm_124 (by decide +kernel) ⟨rfl, rfl, Nat.le_of_ble_eq_true rfl, Nat.le_of_ble_eq_true rfl⟩ t0 km_0 rfl rfl hl.1 rfl (Nat.le_of_ble_eq_true rfl) dX11_needs_25 ⟨Nat.zero_le _, Nat.zero_le _⟩ (fun x11 H locs ix11 hH hS hF1 => ?_)
        refine lv_isub hx hb dX11_needs_28 ?_
        refine lv_topi (fun x12 ex12 => ?_)
        have ix12 := iv_top x12
        refine lv_istore_n (lv' := [(3, .int x12), (0, .ref a0), (1, .int y1), (2, .int y2)]) hx hb dX11_needs_29 rfl hl (by decide) rfl (fun ls hl => ?_)
        refine lv_aload_n hx hb dX11_needs_30 rfl (lv_at hl 1 rfl) ?_
        refine lv_iload_n hx hb dX11_needs_31 rfl (lv_at hl 2 rfl) ?_
        refine lv_iload_n hx hb dX11_needs_32 rfl (lv_at hl 3 rfl) ?_
        refine th_callVi (n := 2) (As := [.int y1, .int y2]) S hK hH hS (th_A.sub (by decide)) (m_X11_likedBy l D cT T q hT hq a0 t0 (y1) ir5 (y2) ir9) gm_1656 gm_1653 gm_1655 gm_86 gm_124 (by decide +kernel) ⟨rfl, rfl, Nat.le_of_ble_eq_true rfl, Nat.le_of_ble_eq_true rfl⟩ t0 km_0 rfl rfl hl.1 rfl (Nat.le_of_ble_eq_true rfl) dX11_needs_33 ⟨Nat.zero_le _, Nat.zero_le _⟩ (fun x13 H locs ix13 hH hS hF1 => ?_)
        refine lv_istore (lv' := [(4, .int x13), (3, .int x12), (0, .ref a0), (1, .int y1), (2, .int y2)]) hx hb dX11_needs_36 hl (by decide) rfl (fun ls hl => ?_)
        refine lv_iload_n hx hb dX11_needs_38 rfl (lv_at hl 1 rfl) ?_
        refine lv_if_gt (tgt := 44) hx hb dX11_needs_39 (by decide) (fun c14 => ?_) (fun c14 => ?_)
        · skip
          have rlc14 : (0 : Int) < x12.toInt := iv_lt c14
          have ir15 : IV x12 1 2147483647 := iv_uR (iv_c (by decide) : IV 0 0 0) ix12 (iv_lt c14) (by decide)
          have ir15a := ir15.1; have ir15b := ir15.2
          refine lv_iload hx hb dX11_needs_44 (lv_at hl 0 rfl) ?_
          refine lv_if_ne (tgt := 53) hx hb dX11_needs_46 (by decide) (fun c16 => ?_) (fun c16 => ?_)
          · skip
            have rlc16 : x13.toInt ≠ (0 : Int) := iv_ne c16
            refine lv_iload_n hx hb dX11_needs_53 rfl (lv_at hl 1 rfl) ?_
            refine lv_iload hx hb dX11_needs_54 (lv_at hl 0 rfl) ?_
            refine lv_iadd hx hb dX11_needs_56 ?_
            refine lv_topi (fun x17 ex17 => ?_)
            have ix17 := iv_top x17
            refine lv_iconst (v := 1) hx hb dX11_needs_57 (by decide) ?_
            refine lv_isub hx hb dX11_needs_58 ?_
            refine lv_topi (fun x18 ex18 => ?_)
            have ix18 := iv_top x18
            refine lv_iload hx hb dX11_needs_59 (lv_at hl 0 rfl) ?_
            refine lv_idiv hx hb dX11_needs_61 c16 ?_
            refine lv_topi (fun x19 ex19 => ?_)
            have ix19 := iv_top x19
            exact J62 H locs ls x19 ix19 hH hS (lv_sub hl [] rfl)
          · skip
            have rlc16 : x13.toInt = (0 : Int) := congrArg Int32.toInt c16
            have ir20 : IV x13 0 0 := iv_eL c16 (iv_c (by decide) : IV 0 0 0)
            have ir20a := ir20.1; have ir20b := ir20.2
            refine lv_iconst (v := (-1)) hx hb dX11_needs_49 (by decide) ?_
            refine lv_goto (tgt := 62) hx hb dX11_needs_50 (by decide) ?_
            exact J62_s0_m1 H locs ls  hH hS (lv_sub hl [] rfl)
        · skip
          have rlc14 : x12.toInt ≤ (0 : Int) := iv_nlt c14
          have ir21 : IV x12 (-2147483648) 0 := iv_vL ix12 (iv_c (by decide) : IV 0 0 0) (iv_nlt c14) (by decide)
          have ir21a := ir21.1; have ir21b := ir21.2
          refine lv_iconst (v := 0) hx hb dX11_needs_42 (by decide) ?_
          exact th_iret S hK hH hS hr hlocks (th_R.i (iv_top _)) dX11_needs_43
      · skip
        have rlc7 : x6.toInt = (0 : Int) := congrArg Int32.toInt c7
        have ir22 : IV x6 0 0 := iv_eL c7 (iv_c (by decide) : IV 0 0 0)
        have ir22a := ir22.1; have ir22b := ir22.2
        exact J16 H locs ls  hH hS (lv_sub hl [] rfl)
  exact J0 s.heap [] ls hH va_S.rf hl

set_option maxRecDepth 100000 in
theorem m_X11_over (l : Launch) (D : va_G) (cT : Nat → ClassId) (T : Nat → Option Nat) (q : Nat → Int) (hT : tokm T) (hq : qkm q) (a0 : Nat) (t0 : T a0 = some 0) (y1 : Int32) (j1 : IV y1 (-2147483648) 2147483647) : th_Met l D cT T (km q) yX11_over cX11_over 3 (some .int) (rmk 3 69) [.ref a0, .int y1] (th_R T (some (.inl (-1, 2147483647)))) [0, 32] := by
  refine th_start (by decide) (Nat.le_of_ble_eq_true rfl) ?_
  intro p e s m below meth c ls S hK hH hr hlocks hnm hl
  have hx := S.1
  have hb := S.2.1
  have hl : lv_has ls 3 [(0, .ref a0), (1, .int y1)] := hl
  have J31 : ∀ (H : Heap) (locs : List Loc) (ls : Array Slot) (w31_0 : Int32), IV w31_0 0 2147483647 → th_H D cT T (km q) H → va_S (th_A T [0, 32]) s.heap H locs → lv_has ls 3 [] → W p l e (rmk 3 69) s m [.ref a0, .int y1].toArray below meth c H locs 0 0 (MQ below (th_Q D cT T (km q) (th_R T (some (.inl (-1, 2147483647)))) [0, 32]) [.ref a0, .int y1].toArray s 0 0 (th_A T [0, 32])) (F0 m 31 ls [.int w31_0]) := by
    intro H locs ls w31_0 iw31_0 hH hS hl
    have l1w31_0 := iw31_0.1; have l2w31_0 := iw31_0.2
    exact th_iret S hK hH hS hr hlocks (th_R.i (iv_w iw31_0 (by decide))) dX11_over_31
  have J31_s0_0 : ∀ (H : Heap) (locs : List Loc) (ls : Array Slot), th_H D cT T (km q) H → va_S (th_A T [0, 32]) s.heap H locs → lv_has ls 3 [] → W p l e (rmk 3 69) s m [.ref a0, .int y1].toArray below meth c H locs 0 0 (MQ below (th_Q D cT T (km q) (th_R T (some (.inl (-1, 2147483647)))) [0, 32]) [.ref a0, .int y1].toArray s 0 0 (th_A T [0, 32])) (F0 m 31 ls [.int 0]) := by
    intro H locs ls hH hS hl
    exact th_iret S hK hH hS hr hlocks (th_R.i (iv_w (iv_c (by decide) : IV 0 0 0) (by decide))) dX11_over_31
  have J0 : ∀ (H : Heap) (locs : List Loc) (ls : Array Slot), th_H D cT T (km q) H → va_S (th_A T [0, 32]) s.heap H locs → lv_has ls 3 [(0, .ref a0), (1, .int y1)] → W p l e (rmk 3 69) s m [.ref a0, .int y1].toArray below meth c H locs 0 0 (MQ below (th_Q D cT T (km q) (th_R T (some (.inl (-1, 2147483647)))) [0, 32]) [.ref a0, .int y1].toArray s 0 0 (th_A T [0, 32])) (F0 m 0 ls []) := by
    intro H locs ls hH hS hl
    refine lv_aload_n hx hb dX11_over_0 rfl (lv_at hl 0 rfl) ?_
    refine lv_iload_n hx hb dX11_over_1 rfl (lv_at hl 1 rfl) ?_
    refine th_callVp (n := 1) (As := [.int y1]) S hK hH hS (th_A.sub (by decide)) (m_X11_isMap l D cT T q hT hq a0 t0 (y1) j1) gm_1626 gm_1623 gm_1625 gm_80 gm_124 (by decide +kernel) ⟨rfl, rfl, Nat.le_of_ble_eq_true rfl, Nat.le_of_ble_eq_true rfl⟩ t0 km_0 rfl rfl hl.1 rfl (Nat.le_of_ble_eq_true rfl) dX11_over_2 ⟨Nat.zero_le _, Nat.zero_le _⟩ (fun x1 H locs ix1 ox1 hH hS hF1 => ?_)
    have ox1 : x1.toInt ≠ 0 → 0 ≤ y1.toInt ∧ y1.toInt < q 11 := ox1
    refine lv_if_ne (tgt := 10) hx hb dX11_over_5 (by decide) (fun c2 => ?_) (fun c2 => ?_)
    · skip
      have rlc2 : x1.toInt ≠ (0 : Int) := iv_ne c2
      have ir3 : IV x1 1 1 := iv_cutL ix1 (iv_c (by decide) : IV 0 0 0) c2 (by decide)
      have ir3a := ir3.1; have ir3b := ir3.2
      have ir4 : IV y1 0 3 := ((fun z => by have z1 := iv_ne z; have z2 : x1.toInt ≠ 0 := z1; have z60 := qkm_11 hq; exact ⟨by omega, by omega⟩) : ¬ x1 = 0 → IV y1 0 3) c2
      have ir4a := ir4.1; have ir4b := ir4.2
      refine lv_aload_n hx hb dX11_over_10 rfl (lv_at hl 0 rfl) ?_
      refine lv_iload_n hx hb dX11_over_11 rfl (lv_at hl 1 rfl) ?_
      refine th_callVi (n := 1) (As := [.int y1]) S hK hH hS (th_A.sub (by decide)) (m_X11_givenTo l D cT T q hT hq a0 t0 (y1) ir4) gm_1652 gm_1649 gm_1651 gm_85 gm_124 (by decide +kernel) ⟨rfl, rfl, Nat.le_of_ble_eq_true rfl, Nat.le_of_ble_eq_true rfl⟩ t0 km_0 rfl rfl hl.1 rfl (Nat.le_of_ble_eq_true rfl) dX11_over_12 ⟨Nat.zero_le _, Nat.zero_le _⟩ (fun x5 H locs ix5 hH hS hF1 => ?_)
      refine lv_aload_n hx hb dX11_over_15 rfl (lv_at hl 0 rfl) ?_
      refine lv_iload_n hx hb dX11_over_16 rfl (lv_at hl 1 rfl) ?_
      refine th_callVi (n := 1) (As := [.int y1]) S hK hH hS (th_A.sub (by decide)) (m_X11_hungerOf l D cT T q hT hq a0 t0 (y1) ir4 (show y1.toInt < q 11 by first | assumption | omega)) gm_1630 gm_1627 gm_1629 gm_81 gm_124 (by decide +kernel) ⟨rfl, rfl, Nat.le_of_ble_eq_true rfl, Nat.le_of_ble_eq_true rfl⟩ t0 km_0 rfl rfl hl.1 rfl (Nat.le_of_ble_eq_true rfl) dX11_over_17 ⟨Nat.zero_le _, Nat.zero_le _⟩ (fun x6 H locs ix6 hH hS hF1 => ?_)
      refine lv_isub hx hb dX11_over_20 ?_
      refine lv_topi (fun x7 ex7 => ?_)
      have ix7 := iv_top x7
      refine lv_istore_n (lv' := [(2, .int x7), (0, .ref a0), (1, .int y1)]) hx hb dX11_over_21 rfl hl (by decide) rfl (fun ls hl => ?_)
      refine lv_iload_n hx hb dX11_over_22 rfl (lv_at hl 0 rfl) ?_
      refine lv_if_ge (tgt := 30) hx hb dX11_over_23 (by decide) (fun c8 => ?_) (fun c8 => ?_)
      · skip
        have rlc8 : (0 : Int) ≤ x7.toInt := iv_le c8
        have ir9 : IV x7 0 2147483647 := iv_vR (iv_c (by decide) : IV 0 0 0) ix7 (iv_le c8) (by decide)
        have ir9a := ir9.1; have ir9b := ir9.2
        refine lv_iload_n hx hb dX11_over_30 rfl (lv_at hl 0 rfl) ?_
        exact J31 H locs ls x7 ir9 hH hS (lv_sub hl [] rfl)
      · skip
        have rlc8 : x7.toInt < (0 : Int) := iv_nle c8
        have ir10 : IV x7 (-2147483648) (-1) := iv_uL ix7 (iv_c (by decide) : IV 0 0 0) (iv_nle c8) (by decide)
        have ir10a := ir10.1; have ir10b := ir10.2
        refine lv_iconst (v := 0) hx hb dX11_over_26 (by decide) ?_
        refine lv_goto (tgt := 31) hx hb dX11_over_27 (by decide) ?_
        exact J31_s0_0 H locs ls  hH hS (lv_sub hl [] rfl)
    · skip
      have rlc2 : x1.toInt = (0 : Int) := congrArg Int32.toInt c2
      have ir11 : IV x1 0 0 := iv_eL c2 (iv_c (by decide) : IV 0 0 0)
      have ir11a := ir11.1; have ir11b := ir11.2
      refine lv_iconst (v := (-1)) hx hb dX11_over_8 (by decide) ?_
      exact th_iret S hK hH hS hr hlocks (th_R.i (iv_w (iv_c (by decide) : IV (-1) (-1) (-1)) (by decide))) dX11_over_9
  exact J0 s.heap [] ls hH va_S.rf hl

set_option maxRecDepth 100000 in
theorem m_X11_bitesIn (l : Launch) (D : va_G) (cT : Nat → ClassId) (T : Nat → Option Nat) (q : Nat → Int) (hT : tokm T) (hq : qkm q) (a0 : Nat) (t0 : T a0 = some 0) (y1 : Int32) (j1 : IV y1 (-2147483648) 2147483647) : th_Met l D cT T (km q) yX11_bitesIn cX11_bitesIn 4 (some .int) (rmk 6 138) [.ref a0, .int y1] (th_R T (some (.inl (-1, 29)))) [0, 32, 33, 35] := by
  refine th_start (by decide) (Nat.le_of_ble_eq_true rfl) ?_
  intro p e s m below meth c ls S hK hH hr hlocks hnm hl
  have hx := S.1
  have hb := S.2.1
  have hl : lv_has ls 4 [(0, .ref a0), (1, .int y1)] := hl
  have J95 : ∀ (H : Heap) (locs : List Loc) (ls : Array Slot) (w95_0 : Int32), IV w95_0 (-1) 29 → th_H D cT T (km q) H → va_S (th_A T [0, 32, 33, 35]) s.heap H locs → lv_has ls 4 [] → W p l e (rmk 6 138) s m [.ref a0, .int y1].toArray below meth c H locs 0 0 (MQ below (th_Q D cT T (km q) (th_R T (some (.inl (-1, 29)))) [0, 32, 33, 35]) [.ref a0, .int y1].toArray s 0 0 (th_A T [0, 32, 33, 35])) (F0 m 95 ls [.int w95_0]) := by
    intro H locs ls w95_0 iw95_0 hH hS hl
    have l1w95_0 := iw95_0.1; have l2w95_0 := iw95_0.2
    exact th_iret S hK hH hS hr hlocks (th_R.i iw95_0) dX11_bitesIn_95
  have J95_s0_m1 : ∀ (H : Heap) (locs : List Loc) (ls : Array Slot), th_H D cT T (km q) H → va_S (th_A T [0, 32, 33, 35]) s.heap H locs → lv_has ls 4 [] → W p l e (rmk 6 138) s m [.ref a0, .int y1].toArray below meth c H locs 0 0 (MQ below (th_Q D cT T (km q) (th_R T (some (.inl (-1, 29)))) [0, 32, 33, 35]) [.ref a0, .int y1].toArray s 0 0 (th_A T [0, 32, 33, 35])) (F0 m 95 ls [.int (-1)]) := by
    intro H locs ls hH hS hl
    exact th_iret S hK hH hS hr hlocks (th_R.i (iv_w (iv_c (by decide) : IV (-1) (-1) (-1)) (by decide))) dX11_bitesIn_95
  have J79_s0_0 : ∀ (H : Heap) (locs : List Loc) (ls : Array Slot) (v79_2 : Int32), IV v79_2 0 30 → th_H D cT T (km q) H → va_S (th_A T [0, 32, 33, 35]) s.heap H locs → lv_has ls 4 [(0, .ref a0), (2, .int v79_2)] → W p l e (rmk 6 138) s m [.ref a0, .int y1].toArray below meth c H locs 0 0 (MQ below (th_Q D cT T (km q) (th_R T (some (.inl (-1, 29)))) [0, 32, 33, 35]) [.ref a0, .int y1].toArray s 0 0 (th_A T [0, 32, 33, 35])) (F0 m 79 ls [.int 0]) := by
    intro H locs ls v79_2 iv79_2 hH hS hl
    have l1v79_2 := iv79_2.1; have l2v79_2 := iv79_2.2
    refine lv_istore_n (lv' := [(3, .int 0), (0, .ref a0), (2, .int v79_2)]) hx hb dX11_bitesIn_79 rfl hl (by decide) rfl (fun ls hl => ?_)
    refine lv_aload_n hx hb dX11_bitesIn_80 rfl (lv_at hl 1 rfl) ?_
    refine th_callVv (n := 0) (As := []) S hK hH hS (th_A.sub (by decide)) (m_X11_bringBack l D cT T q hT hq a0 t0) gm_1768 gm_1765 gm_1767 gm_99 gm_124 (by decide +kernel) ⟨rfl, rfl, Nat.le_of_ble_eq_true rfl, Nat.le_of_ble_eq_true rfl⟩ t0 km_0 rfl rfl hl.1 rfl (Nat.le_of_ble_eq_true rfl) dX11_bitesIn_81 ⟨Nat.zero_le _, Nat.zero_le _⟩ (fun H locs hH hS hF1 => ?_)
    refine lv_iload_n hx hb dX11_bitesIn_84 rfl (lv_at hl 0 rfl) ?_
    refine lv_if_eq (tgt := 94) hx hb dX11_bitesIn_85 (by decide) (fun c1 => ?_) (fun c1 => ?_)
    · skip
      have rlc1 : (0 : Int) = (0 : Int) := congrArg Int32.toInt c1
      refine lv_iconst (v := (-1)) hx hb dX11_bitesIn_94 (by decide) ?_
      exact J95_s0_m1 H locs ls  hH hS (lv_sub hl [] rfl)
    · skip
      have rlc1 : (0 : Int) ≠ (0 : Int) := iv_ne c1
      exact absurd (iv_eqc (iv_c (by decide) : IV 0 0 0) (iv_c (by decide) : IV 0 0 0)) c1
  have J79_s0_1 : ∀ (H : Heap) (locs : List Loc) (ls : Array Slot) (v79_2 : Int32), IV v79_2 0 30 → th_H D cT T (km q) H → va_S (th_A T [0, 32, 33, 35]) s.heap H locs → lv_has ls 4 [(0, .ref a0), (2, .int v79_2)] → W p l e (rmk 6 138) s m [.ref a0, .int y1].toArray below meth c H locs 0 0 (MQ below (th_Q D cT T (km q) (th_R T (some (.inl (-1, 29)))) [0, 32, 33, 35]) [.ref a0, .int y1].toArray s 0 0 (th_A T [0, 32, 33, 35])) (F0 m 79 ls [.int 1]) := by
    intro H locs ls v79_2 iv79_2 hH hS hl
    have l1v79_2 := iv79_2.1; have l2v79_2 := iv79_2.2
    refine lv_istore_n (lv' := [(3, .int 1), (0, .ref a0), (2, .int v79_2)]) hx hb dX11_bitesIn_79 rfl hl (by decide) rfl (fun ls hl => ?_)
    refine lv_aload_n hx hb dX11_bitesIn_80 rfl (lv_at hl 1 rfl) ?_
    refine th_callVv (n := 0) (As := []) S hK hH hS (th_A.sub (by decide)) (m_X11_bringBack l D cT T q hT hq a0 t0) gm_1768 gm_1765 gm_1767 gm_99 gm_124 (by decide +kernel) ⟨rfl, rfl, Nat.le_of_ble_eq_true rfl, Nat.le_of_ble_eq_true rfl⟩ t0 km_0 rfl rfl hl.1 rfl (Nat.le_of_ble_eq_true rfl) dX11_bitesIn_81 ⟨Nat.zero_le _, Nat.zero_le _⟩ (fun H locs hH hS hF1 => ?_)
    refine lv_iload_n hx hb dX11_bitesIn_84 rfl (lv_at hl 0 rfl) ?_
    refine lv_if_eq (tgt := 94) hx hb dX11_bitesIn_85 (by decide) (fun c2 => ?_) (fun c2 => ?_)
    · skip
      have rlc2 : (1 : Int) = (0 : Int) := congrArg Int32.toInt c2
      exfalso
      have z1 := congrArg Int32.toInt c2
      have z2 := ((iv_c (by decide) : IV 1 1 1)).1
      have z3 := ((iv_c (by decide) : IV 1 1 1)).2
      have z4 := ((iv_c (by decide) : IV 0 0 0)).1
      have z5 := ((iv_c (by decide) : IV 0 0 0)).2
      omega
    · skip
      have rlc2 : (1 : Int) ≠ (0 : Int) := iv_ne c2
      refine lv_iload_n hx hb dX11_bitesIn_88 rfl (lv_at hl 2 rfl) ?_
      refine lv_iconst (v := 1) hx hb dX11_bitesIn_89 (by decide) ?_
      refine lv_isub hx hb dX11_bitesIn_90 ?_
      refine lv_topi (fun x3 ex3 => ?_)
      have ix3 : IV x3 (-1) 29 := by rw [ex3]; exact iv_sub iv79_2 (iv_c (by decide) : IV 1 1 1) (by decide)
      have ux3 : x3.toInt = v79_2.toInt - (1 : Int) := by rw [ex3]; exact iv_subE (by have z1 := (iv79_2).1; have z2 := (iv79_2).2; have z3 := ((iv_c (by decide) : IV 1 1 1)).1; have z4 := ((iv_c (by decide) : IV 1 1 1)).2; omega)
      refine lv_goto (tgt := 95) hx hb dX11_bitesIn_91 (by decide) ?_
      exact J95 H locs ls x3 ix3 hH hS (lv_sub hl [] rfl)
  have J53 : ∀ (H : Heap) (locs : List Loc) (ls : Array Slot) (v53_2 : Int32), IV v53_2 0 30 → IV y1 0 3 → th_H D cT T (km q) H → va_S (th_A T [0, 32, 33, 35]) s.heap H locs → lv_has ls 4 [(0, .ref a0), (1, .int y1), (2, .int v53_2)] → W p l e (rmk 6 138) s m [.ref a0, .int y1].toArray below meth c H locs 0 0 (MQ below (th_Q D cT T (km q) (th_R T (some (.inl (-1, 29)))) [0, 32, 33, 35]) [.ref a0, .int y1].toArray s 0 0 (th_A T [0, 32, 33, 35])) (F0 m 53 ls []) := by
    intro H locs ls v53_2 iv53_2 f53_y1 hH hS hl
    have l1v53_2 := iv53_2.1; have l2v53_2 := iv53_2.2
    refine lv_aload_n hx hb dX11_bitesIn_53 rfl (lv_at hl 0 rfl) ?_
    refine th_get S hK hH inG11 t0 km_0 rfl 52 (by decide) gm_1282 rfl rfl dX11_bitesIn_54 (fun v4 hv4 fv4 => ?_)
    obtain ⟨rf5, rfl, trf5⟩ := th_V.ref hv4
    refine lv_bipush (v := 31) hx hb dX11_bitesIn_57 (by decide) ?_
    refine lv_iload_n hx hb dX11_bitesIn_59 rfl (lv_at hl 1 rfl) ?_
    refine lv_iadd hx hb dX11_bitesIn_60 ?_
    refine lv_topi (fun x6 ex6 => ?_)
    have ix6 : IV x6 31 34 := by rw [ex6]; exact iv_add (iv_c (by decide) : IV 31 31 31) f53_y1 (by decide)
    have ux6 : x6.toInt = (31 : Int) + y1.toInt := by rw [ex6]; exact iv_addE (by have z1 := ((iv_c (by decide) : IV 31 31 31)).1; have z2 := ((iv_c (by decide) : IV 31 31 31)).2; have z3 := (f53_y1).1; have z4 := (f53_y1).2; omega)
    refine th_iald S hK hH trf5 km_33 (th_in (hi := 34) (iv_w ix6 (by decide)) (by decide)) dX11_bitesIn_61 (fun v7 hv7 => ?_)
    obtain ⟨x8, rfl, ix8⟩ := th_V.int hv7
    refine lv_aload_n hx hb dX11_bitesIn_62 rfl (lv_at hl 0 rfl) ?_
    refine th_get S hK hH inG11 t0 km_0 rfl 56 (by decide) gm_1286 rfl rfl dX11_bitesIn_63 (fun v9 hv9 fv9 => ?_)
    obtain ⟨rf10, rfl, trf10⟩ := th_V.ref hv9
    refine lv_bipush (v := 31) hx hb dX11_bitesIn_66 (by decide) ?_
    refine lv_iload_n hx hb dX11_bitesIn_68 rfl (lv_at hl 1 rfl) ?_
    refine lv_iadd hx hb dX11_bitesIn_69 ?_
    refine lv_topi (fun x11 ex11 => ?_)
    have zx11 : x6 = x11 := ex6.trans ex11.symm
    subst zx11
    refine th_iald S hK hH trf10 km_35 (th_in (hi := 34) (iv_w ix6 (by decide)) (by decide)) dX11_bitesIn_70 (fun v12 hv12 => ?_)
    obtain ⟨x13, rfl, ix13⟩ := th_V.int hv12
    refine lv_icmp_le (tgt := 78) hx hb dX11_bitesIn_71 (by decide) (fun c14 => ?_) (fun c14 => ?_)
    · skip
      have rlc14 : x8.toInt ≤ x13.toInt := iv_le c14
      refine lv_iconst (v := 0) hx hb dX11_bitesIn_78 (by decide) ?_
      exact J79_s0_0 H locs ls v53_2 iv53_2 hH hS (lv_sub hl [0, 2] rfl)
    · skip
      have rlc14 : x13.toInt < x8.toInt := iv_nle c14
      have ir15 : IV x13 (-2147483648) 2147483646 := iv_uL ix13 ix8 (iv_nle c14) (by decide)
      have ir15a := ir15.1; have ir15b := ir15.2
      have ir16 : IV x8 (-2147483647) 2147483647 := iv_uR ix13 ix8 (iv_nle c14) (by decide)
      have ir16a := ir16.1; have ir16b := ir16.2
      refine lv_iconst (v := 1) hx hb dX11_bitesIn_74 (by decide) ?_
      refine lv_goto (tgt := 79) hx hb dX11_bitesIn_75 (by decide) ?_
      exact J79_s0_1 H locs ls v53_2 iv53_2 hH hS (lv_sub hl [0, 2] rfl)
  have J16 : ∀ (n : Nat) (H : Heap) (locs : List Loc) (ls : Array Slot) (v16_2 : Int32), IV v16_2 0 30 → IV y1 0 3 → th_H D cT T (km q) H → va_S (th_A T [0, 32, 33, 35]) s.heap H locs → lv_has ls 4 [(0, .ref a0), (1, .int y1), (2, .int v16_2)] → (30 + 1 - Int32.toInt v16_2).toNat < n → W p l e (rmk 6 138) s m [.ref a0, .int y1].toArray below meth c H locs 0 0 (MQ below (th_Q D cT T (km q) (th_R T (some (.inl (-1, 29)))) [0, 32, 33, 35]) [.ref a0, .int y1].toArray s 0 0 (th_A T [0, 32, 33, 35])) (F0 m 16 ls []) := by
    intro n
    induction n with
    | zero => intro H locs ls v16_2 iv16_2 f16_y1 hH hS hl hn; exact absurd hn (Nat.not_lt_zero _)
    | succ n ih16 =>
      intro H locs ls v16_2 iv16_2 f16_y1 hH hS hl hn16
      have l1v16_2 := iv16_2.1; have l2v16_2 := iv16_2.2
      refine lv_iload_n hx hb dX11_bitesIn_16 rfl (lv_at hl 2 rfl) ?_
      refine lv_bipush (v := 30) hx hb dX11_bitesIn_17 (by decide) ?_
      refine lv_icmp_ge (tgt := 53) hx hb dX11_bitesIn_19 (by decide) (fun c17 => ?_) (fun c17 => ?_)
      · skip
        have rlc17 : (30 : Int) ≤ v16_2.toInt := iv_le c17
        have ir18 : IV v16_2 30 30 := iv_vR (iv_c (by decide) : IV 30 30 30) iv16_2 (iv_le c17) (by decide)
        have ir18a := ir18.1; have ir18b := ir18.2
        exact J53 H locs ls v16_2 (iv_w ir18 (by decide)) f16_y1 hH hS (lv_sub hl [0, 1, 2] rfl)
      · skip
        have rlc17 : v16_2.toInt < (30 : Int) := iv_nle c17
        have ir19 : IV v16_2 0 29 := iv_uL iv16_2 (iv_c (by decide) : IV 30 30 30) (iv_nle c17) (by decide)
        have ir19a := ir19.1; have ir19b := ir19.2
        refine lv_aload_n hx hb dX11_bitesIn_22 rfl (lv_at hl 0 rfl) ?_
        refine th_get S hK hH inG11 t0 km_0 rfl 52 (by decide) gm_1282 rfl rfl dX11_bitesIn_23 (fun v20 hv20 fv20 => ?_)
        obtain ⟨rf21, rfl, trf21⟩ := th_V.ref hv20
        refine lv_bipush (v := 31) hx hb dX11_bitesIn_26 (by decide) ?_
        refine lv_iload_n hx hb dX11_bitesIn_28 rfl (lv_at hl 1 rfl) ?_
        refine lv_iadd hx hb dX11_bitesIn_29 ?_
        refine lv_topi (fun x22 ex22 => ?_)
        have ix22 : IV x22 31 34 := by rw [ex22]; exact iv_add (iv_c (by decide) : IV 31 31 31) f16_y1 (by decide)
        have ux22 : x22.toInt = (31 : Int) + y1.toInt := by rw [ex22]; exact iv_addE (by have z1 := ((iv_c (by decide) : IV 31 31 31)).1; have z2 := ((iv_c (by decide) : IV 31 31 31)).2; have z3 := (f16_y1).1; have z4 := (f16_y1).2; omega)
        refine th_iald S hK hH trf21 km_33 (th_in (hi := 34) (iv_w ix22 (by decide)) (by decide)) dX11_bitesIn_30 (fun v23 hv23 => ?_)
        obtain ⟨x24, rfl, ix24⟩ := th_V.int hv23
        refine lv_aload_n hx hb dX11_bitesIn_31 rfl (lv_at hl 0 rfl) ?_
        refine th_get S hK hH inG11 t0 km_0 rfl 56 (by decide) gm_1286 rfl rfl dX11_bitesIn_32 (fun v25 hv25 fv25 => ?_)
        obtain ⟨rf26, rfl, trf26⟩ := th_V.ref hv25
        refine lv_bipush (v := 31) hx hb dX11_bitesIn_35 (by decide) ?_
        refine lv_iload_n hx hb dX11_bitesIn_37 rfl (lv_at hl 1 rfl) ?_
        refine lv_iadd hx hb dX11_bitesIn_38 ?_
        refine lv_topi (fun x27 ex27 => ?_)
        have zx27 : x22 = x27 := ex22.trans ex27.symm
        subst zx27
        refine th_iald S hK hH trf26 km_35 (th_in (hi := 34) (iv_w ix22 (by decide)) (by decide)) dX11_bitesIn_39 (fun v28 hv28 => ?_)
        obtain ⟨x29, rfl, ix29⟩ := th_V.int hv28
        refine lv_icmp_ne (tgt := 53) hx hb dX11_bitesIn_40 (by decide) (fun c30 => ?_) (fun c30 => ?_)
        · skip
          have rlc30 : x24.toInt ≠ x29.toInt := iv_ne c30
          exact J53 H locs ls v16_2 (iv_w ir19 (by decide)) f16_y1 hH hS (lv_sub hl [0, 1, 2] rfl)
        · skip
          have rlc30 : x24.toInt = x29.toInt := congrArg Int32.toInt c30
          refine lv_aload_n hx hb dX11_bitesIn_43 rfl (lv_at hl 0 rfl) ?_
          refine th_callVv (n := 0) (As := []) S hK hH hS (th_A.sub (by decide)) (m_X11_goYear l D cT T q hT hq a0 t0) gm_1717 gm_1714 gm_1716 gm_93 gm_124 (by decide +kernel) ⟨rfl, rfl, Nat.le_of_ble_eq_true rfl, Nat.le_of_ble_eq_true rfl⟩ t0 km_0 rfl rfl hl.1 rfl (Nat.le_of_ble_eq_true rfl) dX11_bitesIn_44 ⟨Nat.zero_le _, Nat.zero_le _⟩ (fun H locs hH hS hF1 => ?_)
          refine th_iinc S dX11_bitesIn_47 hl (k := 2) rfl (by decide) ir19 (by decide) (fun x31 ls ex31 ix31 hl => ?_)
          have hl : lv_has ls 4 [(2, .int x31), (0, .ref a0), (1, .int y1)] := hl
          have ix31 : IV x31 1 30 := ix31
          refine lv_goto (tgt := 16) hx hb dX11_bitesIn_50 (by decide) ?_
          exact ih16 H locs ls x31 (iv_w ix31 (by decide)) f16_y1 hH hS (lv_sub hl [1, 2, 0] rfl) (th_up iv16_2 ex31 (by decide) hn16)
  have J0 : ∀ (H : Heap) (locs : List Loc) (ls : Array Slot), th_H D cT T (km q) H → va_S (th_A T [0, 32, 33, 35]) s.heap H locs → lv_has ls 4 [(0, .ref a0), (1, .int y1)] → W p l e (rmk 6 138) s m [.ref a0, .int y1].toArray below meth c H locs 0 0 (MQ below (th_Q D cT T (km q) (th_R T (some (.inl (-1, 29)))) [0, 32, 33, 35]) [.ref a0, .int y1].toArray s 0 0 (th_A T [0, 32, 33, 35])) (F0 m 0 ls []) := by
    intro H locs ls hH hS hl
    refine lv_aload_n hx hb dX11_bitesIn_0 rfl (lv_at hl 0 rfl) ?_
    refine lv_iload_n hx hb dX11_bitesIn_1 rfl (lv_at hl 1 rfl) ?_
    refine th_callVp (n := 1) (As := [.int y1]) S hK hH hS (th_A.sub (by decide)) (m_X11_isMap l D cT T q hT hq a0 t0 (y1) j1) gm_1626 gm_1623 gm_1625 gm_80 gm_124 (by decide +kernel) ⟨rfl, rfl, Nat.le_of_ble_eq_true rfl, Nat.le_of_ble_eq_true rfl⟩ t0 km_0 rfl rfl hl.1 rfl (Nat.le_of_ble_eq_true rfl) dX11_bitesIn_2 ⟨Nat.zero_le _, Nat.zero_le _⟩ (fun x32 H locs ix32 ox32 hH hS hF1 => ?_)
    have ox32 : x32.toInt ≠ 0 → 0 ≤ y1.toInt ∧ y1.toInt < q 11 := ox32
    refine lv_if_ne (tgt := 10) hx hb dX11_bitesIn_5 (by decide) (fun c33 => ?_) (fun c33 => ?_)
    · skip
      have rlc33 : x32.toInt ≠ (0 : Int) := iv_ne c33
      have ir34 : IV x32 1 1 := iv_cutL ix32 (iv_c (by decide) : IV 0 0 0) c33 (by decide)
      have ir34a := ir34.1; have ir34b := ir34.2
      have ir35 : IV y1 0 3 := ((fun z => by have z1 := iv_ne z; have z2 : x32.toInt ≠ 0 := z1; have z60 := qkm_11 hq; exact ⟨by omega, by omega⟩) : ¬ x32 = 0 → IV y1 0 3) c33
      have ir35a := ir35.1; have ir35b := ir35.2
      refine lv_aload_n hx hb dX11_bitesIn_10 rfl (lv_at hl 0 rfl) ?_
      refine th_callVv (n := 0) (As := []) S hK hH hS (th_A.sub (by decide)) (m_X11_keepNow l D cT T q hT hq a0 t0) gm_1713 gm_1710 gm_1712 gm_92 gm_124 (by decide +kernel) ⟨rfl, rfl, Nat.le_of_ble_eq_true rfl, Nat.le_of_ble_eq_true rfl⟩ t0 km_0 rfl rfl hl.1 rfl (Nat.le_of_ble_eq_true rfl) dX11_bitesIn_11 ⟨Nat.zero_le _, Nat.zero_le _⟩ (fun H locs hH hS hF1 => ?_)
      refine lv_iconst (v := 0) hx hb dX11_bitesIn_14 (by decide) ?_
      refine lv_istore_n (lv' := [(2, .int 0), (0, .ref a0), (1, .int y1)]) hx hb dX11_bitesIn_15 rfl hl (by decide) rfl (fun ls hl => ?_)
      exact J16 ((30 + 1 - Int32.toInt 0).toNat + 1) H locs ls 0 (iv_w (iv_c (by decide) : IV 0 0 0) (by decide)) ir35 hH hS (lv_sub hl [1, 2, 0] rfl) (Nat.lt_succ_self _)
    · skip
      have rlc33 : x32.toInt = (0 : Int) := congrArg Int32.toInt c33
      have ir36 : IV x32 0 0 := iv_eL c33 (iv_c (by decide) : IV 0 0 0)
      have ir36a := ir36.1; have ir36b := ir36.2
      refine lv_iconst (v := (-1)) hx hb dX11_bitesIn_8 (by decide) ?_
      exact th_iret S hK hH hS hr hlocks (th_R.i (iv_w (iv_c (by decide) : IV (-1) (-1) (-1)) (by decide))) dX11_bitesIn_9
  exact J0 s.heap [] ls hH va_S.rf hl

set_option maxRecDepth 100000 in
theorem m_X11_will (l : Launch) (D : va_G) (cT : Nat → ClassId) (T : Nat → Option Nat) (q : Nat → Int) (hT : tokm T) (hq : qkm q) (a0 : Nat) (t0 : T a0 = some 0) (y1 : Int32) (j1 : IV y1 (-2147483648) 2147483647) (y2 : Int32) (j2 : IV y2 (-2147483648) 2147483647) : th_Met l D cT T (km q) yX11_will cX11_will 4 (some .int) (rmk 6 138) [.ref a0, .int y1, .int y2] (th_R T (some (.inl (-2147483648, 2147483647)))) [0, 32, 33, 35] := by
  refine th_start (by decide) (Nat.le_of_ble_eq_true rfl) ?_
  intro p e s m below meth c ls S hK hH hr hlocks hnm hl
  have hx := S.1
  have hb := S.2.1
  have hl : lv_has ls 4 [(0, .ref a0), (1, .int y1), (2, .int y2)] := hl
  have J26 : ∀ (n : Nat) (H : Heap) (locs : List Loc) (ls : Array Slot) (v26_3 : Int32), IV v26_3 0 40 → IV y1 0 7 → IV y2 0 40 → th_H D cT T (km q) H → va_S (th_A T [0, 32, 33, 35]) s.heap H locs → lv_has ls 4 [(0, .ref a0), (1, .int y1), (2, .int y2), (3, .int v26_3)] → (40 + 1 - Int32.toInt v26_3).toNat < n → W p l e (rmk 6 138) s m [.ref a0, .int y1, .int y2].toArray below meth c H locs 0 0 (MQ below (th_Q D cT T (km q) (th_R T (some (.inl (-2147483648, 2147483647)))) [0, 32, 33, 35]) [.ref a0, .int y1, .int y2].toArray s 0 0 (th_A T [0, 32, 33, 35])) (F0 m 26 ls []) := by
    intro n
    induction n with
    | zero => intro H locs ls v26_3 iv26_3 f26_y1 f26_y2 hH hS hl hn; exact absurd hn (Nat.not_lt_zero _)
    | succ n ih26 =>
      intro H locs ls v26_3 iv26_3 f26_y1 f26_y2 hH hS hl hn26
      have l1v26_3 := iv26_3.1; have l2v26_3 := iv26_3.2
      refine lv_iload_n hx hb dX11_will_26 rfl (lv_at hl 3 rfl) ?_
      refine lv_iload_n hx hb dX11_will_27 rfl (lv_at hl 2 rfl) ?_
      refine lv_icmp_ge (tgt := 41) hx hb dX11_will_28 (by decide) (fun c1 => ?_) (fun c1 => ?_)
      · skip
        have rlc1 : y2.toInt ≤ v26_3.toInt := iv_le c1
        refine lv_aload_n hx hb dX11_will_41 rfl (lv_at hl 0 rfl) ?_
        refine th_get S hK hH inG11 t0 km_0 rfl 52 (by decide) gm_1282 rfl rfl dX11_will_42 (fun v2 hv2 fv2 => ?_)
        obtain ⟨rf3, rfl, trf3⟩ := th_V.ref hv2
        refine lv_bipush (v := 15) hx hb dX11_will_45 (by decide) ?_
        refine lv_iload_n hx hb dX11_will_47 rfl (lv_at hl 1 rfl) ?_
        refine lv_iadd hx hb dX11_will_48 ?_
        refine lv_topi (fun x4 ex4 => ?_)
        have ix4 : IV x4 15 22 := by rw [ex4]; exact iv_add (iv_c (by decide) : IV 15 15 15) f26_y1 (by decide)
        have ux4 : x4.toInt = (15 : Int) + y1.toInt := by rw [ex4]; exact iv_addE (by have z1 := ((iv_c (by decide) : IV 15 15 15)).1; have z2 := ((iv_c (by decide) : IV 15 15 15)).2; have z3 := (f26_y1).1; have z4 := (f26_y1).2; omega)
        refine th_iald S hK hH trf3 km_33 (th_in (hi := 22) (iv_w ix4 (by decide)) (by decide)) dX11_will_49 (fun v5 hv5 => ?_)
        obtain ⟨x6, rfl, ix6⟩ := th_V.int hv5
        refine lv_istore_n (lv' := [(3, .int x6), (0, .ref a0), (1, .int y1), (2, .int y2)]) hx hb dX11_will_50 rfl hl (by decide) rfl (fun ls hl => ?_)
        refine lv_aload_n hx hb dX11_will_51 rfl (lv_at hl 1 rfl) ?_
        refine th_callVv (n := 0) (As := []) S hK hH hS (th_A.sub (by decide)) (m_X11_bringBack l D cT T q hT hq a0 t0) gm_1768 gm_1765 gm_1767 gm_99 gm_124 (by decide +kernel) ⟨rfl, rfl, Nat.le_of_ble_eq_true rfl, Nat.le_of_ble_eq_true rfl⟩ t0 km_0 rfl rfl hl.1 rfl (Nat.le_of_ble_eq_true rfl) dX11_will_52 ⟨Nat.zero_le _, Nat.zero_le _⟩ (fun H locs hH hS hF1 => ?_)
        refine lv_iload_n hx hb dX11_will_55 rfl (lv_at hl 0 rfl) ?_
        exact th_iret S hK hH hS hr hlocks (th_R.i ix6) dX11_will_56
      · skip
        have rlc1 : v26_3.toInt < y2.toInt := iv_nle c1
        have ir7 : IV v26_3 0 39 := iv_uL iv26_3 f26_y2 (iv_nle c1) (by decide)
        have ir7a := ir7.1; have ir7b := ir7.2
        have ir8 : IV y2 1 40 := iv_uR iv26_3 f26_y2 (iv_nle c1) (by decide)
        have ir8a := ir8.1; have ir8b := ir8.2
        refine lv_aload_n hx hb dX11_will_31 rfl (lv_at hl 0 rfl) ?_
        refine th_callVv (n := 0) (As := []) S hK hH hS (th_A.sub (by decide)) (m_X11_goYear l D cT T q hT hq a0 t0) gm_1717 gm_1714 gm_1716 gm_93 gm_124 (by decide +kernel) ⟨rfl, rfl, Nat.le_of_ble_eq_true rfl, Nat.le_of_ble_eq_true rfl⟩ t0 km_0 rfl rfl hl.1 rfl (Nat.le_of_ble_eq_true rfl) dX11_will_32 ⟨Nat.zero_le _, Nat.zero_le _⟩ (fun H locs hH hS hF1 => ?_)
        refine th_iinc S dX11_will_35 hl (k := 3) rfl (by decide) ir7 (by decide) (fun x9 ls ex9 ix9 hl => ?_)
        have hl : lv_has ls 4 [(3, .int x9), (0, .ref a0), (1, .int y1), (2, .int y2)] := hl
        have ix9 : IV x9 1 40 := ix9
        refine lv_goto (tgt := 26) hx hb dX11_will_38 (by decide) ?_
        exact ih26 H locs ls x9 (iv_w ix9 (by decide)) f26_y1 (iv_w ir8 (by decide)) hH hS (lv_sub hl [1, 2, 3, 0] rfl) (th_up iv26_3 ex9 (by decide) hn26)
  have J18 : ∀ (H : Heap) (locs : List Loc) (ls : Array Slot), th_H D cT T (km q) H → va_S (th_A T [0, 32, 33, 35]) s.heap H locs → lv_has ls 4 [] → W p l e (rmk 6 138) s m [.ref a0, .int y1, .int y2].toArray below meth c H locs 0 0 (MQ below (th_Q D cT T (km q) (th_R T (some (.inl (-2147483648, 2147483647)))) [0, 32, 33, 35]) [.ref a0, .int y1, .int y2].toArray s 0 0 (th_A T [0, 32, 33, 35])) (F0 m 18 ls []) := by
    intro H locs ls hH hS hl
    refine lv_iconst (v := (-1)) hx hb dX11_will_18 (by decide) ?_
    exact th_iret S hK hH hS hr hlocks (th_R.i (iv_top _)) dX11_will_19
  have J0 : ∀ (H : Heap) (locs : List Loc) (ls : Array Slot), th_H D cT T (km q) H → va_S (th_A T [0, 32, 33, 35]) s.heap H locs → lv_has ls 4 [(0, .ref a0), (1, .int y1), (2, .int y2)] → W p l e (rmk 6 138) s m [.ref a0, .int y1, .int y2].toArray below meth c H locs 0 0 (MQ below (th_Q D cT T (km q) (th_R T (some (.inl (-2147483648, 2147483647)))) [0, 32, 33, 35]) [.ref a0, .int y1, .int y2].toArray s 0 0 (th_A T [0, 32, 33, 35])) (F0 m 0 ls []) := by
    intro H locs ls hH hS hl
    refine lv_aload_n hx hb dX11_will_0 rfl (lv_at hl 0 rfl) ?_
    refine lv_iload_n hx hb dX11_will_1 rfl (lv_at hl 1 rfl) ?_
    refine th_callVp (n := 1) (As := [.int y1]) S hK hH hS (th_A.sub (by decide)) (m_X11_isPlace l D cT T q hT hq a0 t0 (y1) j1) gm_1672 gm_1669 gm_1671 gm_89 gm_124 (by decide +kernel) ⟨rfl, rfl, Nat.le_of_ble_eq_true rfl, Nat.le_of_ble_eq_true rfl⟩ t0 km_0 rfl rfl hl.1 rfl (Nat.le_of_ble_eq_true rfl) dX11_will_2 ⟨Nat.zero_le _, Nat.zero_le _⟩ (fun x10 H locs ix10 ox10 hH hS hF1 => ?_)
    have ox10 : x10.toInt ≠ 0 → 0 ≤ y1.toInt ∧ y1.toInt < q 18 := ox10
    refine lv_if_eq (tgt := 18) hx hb dX11_will_5 (by decide) (fun c11 => ?_) (fun c11 => ?_)
    · skip
      have rlc11 : x10.toInt = (0 : Int) := congrArg Int32.toInt c11
      have ir12 : IV x10 0 0 := iv_eL c11 (iv_c (by decide) : IV 0 0 0)
      have ir12a := ir12.1; have ir12b := ir12.2
      exact J18 H locs ls  hH hS (lv_sub hl [] rfl)
    · skip
      have rlc11 : x10.toInt ≠ (0 : Int) := iv_ne c11
      have ir13 : IV x10 1 1 := iv_cutL ix10 (iv_c (by decide) : IV 0 0 0) c11 (by decide)
      have ir13a := ir13.1; have ir13b := ir13.2
      have ir14 : IV y1 0 7 := ((fun z => by have z1 := iv_ne z; have z2 : x10.toInt ≠ 0 := z1; have z60 := qkm_18 hq; exact ⟨by omega, by omega⟩) : ¬ x10 = 0 → IV y1 0 7) c11
      have ir14a := ir14.1; have ir14b := ir14.2
      refine lv_iload_n hx hb dX11_will_8 rfl (lv_at hl 2 rfl) ?_
      refine lv_iconst (v := 0) hx hb dX11_will_9 (by decide) ?_
      refine lv_bipush (v := 40) hx hb dX11_will_10 (by decide) ?_
      refine th_callSp (n := 3) (As := [.int y2, .int 0, .int 40]) S hK hH hS (th_A.sub (by decide)) (m_X11_isIn l D cT T q hT hq (y2) j2 (0) (iv_top _) (40) (iv_top _)) gm_1618 gm_1616 gm_1617 gm_124 (by decide +kernel) ⟨rfl, rfl, Nat.le_of_ble_eq_true rfl, Nat.le_of_ble_eq_true rfl⟩ rfl hl.1 rfl (Nat.le_of_ble_eq_true rfl) dX11_will_12 ⟨Nat.zero_le _, Nat.zero_le _⟩ (fun x15 H locs ix15 ox15 hH hS hF1 => ?_)
      obtain ⟨ox15_0, ox15_1⟩ := ox15
      have ox15_0 : x15.toInt ≠ 0 → (0 : Int) ≤ y2.toInt ∧ y2.toInt ≤ (40 : Int) := ox15_0
      have ox15_1 : x15.toInt = 0 → y2.toInt < (0 : Int) ∨ (40 : Int) < y2.toInt := ox15_1
      refine lv_if_ne (tgt := 20) hx hb dX11_will_15 (by decide) (fun c16 => ?_) (fun c16 => ?_)
      · skip
        have rlc16 : x15.toInt ≠ (0 : Int) := iv_ne c16
        have ir17 : IV x15 1 1 := iv_cutL ix15 (iv_c (by decide) : IV 0 0 0) c16 (by decide)
        have ir17a := ir17.1; have ir17b := ir17.2
        have ir18 : IV y2 0 40 := ((fun z => by have z1 := iv_ne z; have z2 : x15.toInt ≠ 0 := z1; have z4 := ((iv_c (by decide) : IV 0 0 0)).1; have z5 := ((iv_c (by decide) : IV 40 40 40)).2; exact ⟨by omega, by omega⟩) : ¬ x15 = 0 → IV y2 0 40) c16
        have ir18a := ir18.1; have ir18b := ir18.2
        refine lv_aload_n hx hb dX11_will_20 rfl (lv_at hl 0 rfl) ?_
        refine th_callVv (n := 0) (As := []) S hK hH hS (th_A.sub (by decide)) (m_X11_keepNow l D cT T q hT hq a0 t0) gm_1713 gm_1710 gm_1712 gm_92 gm_124 (by decide +kernel) ⟨rfl, rfl, Nat.le_of_ble_eq_true rfl, Nat.le_of_ble_eq_true rfl⟩ t0 km_0 rfl rfl hl.1 rfl (Nat.le_of_ble_eq_true rfl) dX11_will_21 ⟨Nat.zero_le _, Nat.zero_le _⟩ (fun H locs hH hS hF1 => ?_)
        refine lv_iconst (v := 0) hx hb dX11_will_24 (by decide) ?_
        refine lv_istore_n (lv' := [(3, .int 0), (0, .ref a0), (1, .int y1), (2, .int y2)]) hx hb dX11_will_25 rfl hl (by decide) rfl (fun ls hl => ?_)
        exact J26 ((40 + 1 - Int32.toInt 0).toNat + 1) H locs ls 0 (iv_w (iv_c (by decide) : IV 0 0 0) (by decide)) ir14 ir18 hH hS (lv_sub hl [1, 2, 3, 0] rfl) (Nat.lt_succ_self _)
      · skip
        have rlc16 : x15.toInt = (0 : Int) := congrArg Int32.toInt c16
        have ir19 : IV x15 0 0 := iv_eL c16 (iv_c (by decide) : IV 0 0 0)
        have ir19a := ir19.1; have ir19b := ir19.2
        exact J18 H locs ls  hH hS (lv_sub hl [] rfl)
  exact J0 s.heap [] ls hH va_S.rf hl

set_option maxRecDepth 100000 in
theorem m_X11_doom (l : Launch) (D : va_G) (cT : Nat → ClassId) (T : Nat → Option Nat) (q : Nat → Int) (hT : tokm T) (hq : qkm q) (a0 : Nat) (t0 : T a0 = some 0) (y1 : Int32) (j1 : IV y1 (-2147483648) 2147483647) : th_Met l D cT T (km q) yX11_doom cX11_doom 5 (some .int) (rmk 6 138) [.ref a0, .int y1] (th_R T (some (.inl (-1, 31)))) [0, 32, 33, 35] := by
  refine th_start (by decide) (Nat.le_of_ble_eq_true rfl) ?_
  intro p e s m below meth c ls S hK hH hr hlocks hnm hl
  have hx := S.1
  have hb := S.2.1
  have hl : lv_has ls 5 [(0, .ref a0), (1, .int y1)] := hl
  have J83 : ∀ (H : Heap) (locs : List Loc) (ls : Array Slot) (w83_0 : Int32), IV w83_0 0 31 → th_H D cT T (km q) H → va_S (th_A T [0, 32, 33, 35]) s.heap H locs → lv_has ls 5 [] → W p l e (rmk 6 138) s m [.ref a0, .int y1].toArray below meth c H locs 0 0 (MQ below (th_Q D cT T (km q) (th_R T (some (.inl (-1, 31)))) [0, 32, 33, 35]) [.ref a0, .int y1].toArray s 0 0 (th_A T [0, 32, 33, 35])) (F0 m 83 ls [.int w83_0]) := by
    intro H locs ls w83_0 iw83_0 hH hS hl
    have l1w83_0 := iw83_0.1; have l2w83_0 := iw83_0.2
    exact th_iret S hK hH hS hr hlocks (th_R.i (iv_w iw83_0 (by decide))) dX11_doom_83
  have J58 : ∀ (n : Nat) (H : Heap) (locs : List Loc) (ls : Array Slot) (v58_2 : Int32) (v58_3 : Int32) (v58_4 : Int32), IV v58_2 0 30 → IV v58_3 (-2147483648) 2147483647 → IV v58_4 0 31 → ¬ v58_3 = 0 → IV y1 0 1 → (nobit v58_3 v58_4.toInt) → (v58_3.toInt ≠ 0) → th_H D cT T (km q) H → va_S (th_A T [0, 32, 33, 35]) s.heap H locs → lv_has ls 5 [(1, .int y1), (2, .int v58_2), (3, .int v58_3), (4, .int v58_4)] → (31 + 1 - Int32.toInt v58_4).toNat < n → W p l e (rmk 6 138) s m [.ref a0, .int y1].toArray below meth c H locs 0 0 (MQ below (th_Q D cT T (km q) (th_R T (some (.inl (-1, 31)))) [0, 32, 33, 35]) [.ref a0, .int y1].toArray s 0 0 (th_A T [0, 32, 33, 35])) (F0 m 58 ls []) := by
    intro n
    induction n with
    | zero => intro H locs ls v58_2 v58_3 v58_4 iv58_2 iv58_3 iv58_4 d58_3_0 f58_y1 v58_inv0 v58_inv1 hH hS hl hn; exact absurd hn (Nat.not_lt_zero _)
    | succ n ih58 =>
      intro H locs ls v58_2 v58_3 v58_4 iv58_2 iv58_3 iv58_4 d58_3_0 f58_y1 v58_inv0 v58_inv1 hH hS hl hn58
      have l1v58_2 := iv58_2.1; have l2v58_2 := iv58_2.2
      have l1v58_4 := iv58_4.1; have l2v58_4 := iv58_4.2
      refine lv_iload_n hx hb dX11_doom_58 rfl (lv_at hl 2 rfl) ?_
      refine lv_iload hx hb dX11_doom_59 (lv_at hl 3 rfl) ?_
      refine th_callSp (n := 2) (As := [.int v58_3, .int v58_4]) S hK hH hS (th_A.sub (by decide)) (m_X11_has l D cT T q hT hq (v58_3) iv58_3 (v58_4) (iv_top _)) gm_1633 gm_1631 gm_1632 gm_124 (by decide +kernel) ⟨rfl, rfl, Nat.le_of_ble_eq_true rfl, Nat.le_of_ble_eq_true rfl⟩ rfl hl.1 rfl (Nat.le_of_ble_eq_true rfl) dX11_doom_61 ⟨Nat.zero_le _, Nat.zero_le _⟩ (fun x1 H locs ix1 ox1 hH hS hF1 => ?_)
      have ox1 : x1.toInt = 0 → ¬ ((v58_3 >>> (v58_4 &&& 31)) &&& 1 = 1) := ox1
      refine lv_if_ne (tgt := 73) hx hb dX11_doom_64 (by decide) (fun c2 => ?_) (fun c2 => ?_)
      · skip
        have rlc2 : x1.toInt ≠ (0 : Int) := iv_ne c2
        have ir3 : IV x1 1 1 := iv_cutL ix1 (iv_c (by decide) : IV 0 0 0) c2 (by decide)
        have ir3a := ir3.1; have ir3b := ir3.2
        refine lv_iload_n hx hb dX11_doom_73 rfl (lv_at hl 0 rfl) ?_
        refine lv_if_ne (tgt := 81) hx hb dX11_doom_74 (by decide) (fun c4 => ?_) (fun c4 => ?_)
        · skip
          have rlc4 : y1.toInt ≠ (0 : Int) := iv_ne c4
          have ir5 : IV y1 1 1 := iv_cutL f58_y1 (iv_c (by decide) : IV 0 0 0) c4 (by decide)
          have ir5a := ir5.1; have ir5b := ir5.2
          refine lv_iload hx hb dX11_doom_81 (lv_at hl 3 rfl) ?_
          exact J83 H locs ls v58_4 iv58_4 hH hS (lv_sub hl [] rfl)
        · skip
          have rlc4 : y1.toInt = (0 : Int) := congrArg Int32.toInt c4
          have ir6 : IV y1 0 0 := iv_eL c4 (iv_c (by decide) : IV 0 0 0)
          have ir6a := ir6.1; have ir6b := ir6.2
          refine lv_iload_n hx hb dX11_doom_77 rfl (lv_at hl 1 rfl) ?_
          refine lv_goto (tgt := 83) hx hb dX11_doom_78 (by decide) ?_
          exact J83 H locs ls v58_2 (iv_w iv58_2 (by decide)) hH hS (lv_sub hl [] rfl)
      · skip
        have rlc2 : x1.toInt = (0 : Int) := congrArg Int32.toInt c2
        have ir7 : IV x1 0 0 := iv_eL c2 (iv_c (by decide) : IV 0 0 0)
        have ir7a := ir7.1; have ir7b := ir7.2
        have hb2 := nobit_next v58_inv0 iv58_4 (ox1 (by omega)) (by omega)
        have hb1 := hb2.1; have hb3 := hb2.2
        refine th_iinc S dX11_doom_67 hl (k := 3) rfl (by decide) iv58_4 (by decide) (fun x8 ls ex8 ix8 hl => ?_)
        have hl : lv_has ls 5 [(4, .int x8), (1, .int y1), (2, .int v58_2), (3, .int v58_3)] := hl
        have ix8 : IV x8 1 32 := ix8
        refine lv_goto (tgt := 58) hx hb dX11_doom_70 (by decide) ?_
        exact ih58 H locs ls v58_2 v58_3 x8 iv58_2 iv58_3 (show IV x8 0 31 by have z1 := (ix8).1; have z2 := (ix8).2; exact ⟨by omega, by omega⟩) d58_3_0 f58_y1 (show nobit v58_3 x8.toInt by first | exact nobit0 _ | (rw [ex8]; exact hb1)) (show v58_3.toInt ≠ 0 by omega) hH hS (lv_sub hl [1, 2, 3, 0] rfl) (th_up iv58_4 ex8 (by decide) hn58)
  have J40 : ∀ (H : Heap) (locs : List Loc) (ls : Array Slot) (v40_2 : Int32), IV v40_2 0 30 → IV y1 0 1 → th_H D cT T (km q) H → va_S (th_A T [0, 32, 33, 35]) s.heap H locs → lv_has ls 5 [(0, .ref a0), (1, .int y1), (2, .int v40_2)] → W p l e (rmk 6 138) s m [.ref a0, .int y1].toArray below meth c H locs 0 0 (MQ below (th_Q D cT T (km q) (th_R T (some (.inl (-1, 31)))) [0, 32, 33, 35]) [.ref a0, .int y1].toArray s 0 0 (th_A T [0, 32, 33, 35])) (F0 m 40 ls []) := by
    intro H locs ls v40_2 iv40_2 f40_y1 hH hS hl
    have l1v40_2 := iv40_2.1; have l2v40_2 := iv40_2.2
    refine lv_aload_n hx hb dX11_doom_40 rfl (lv_at hl 0 rfl) ?_
    refine th_callVi (n := 0) (As := []) S hK hH hS (th_A.sub (by decide)) (m_X11_lost l D cT T q hT hq a0 t0) gm_1780 gm_1777 gm_1779 gm_100 gm_124 (by decide +kernel) ⟨rfl, rfl, Nat.le_of_ble_eq_true rfl, Nat.le_of_ble_eq_true rfl⟩ t0 km_0 rfl rfl hl.1 rfl (Nat.le_of_ble_eq_true rfl) dX11_doom_41 ⟨Nat.zero_le _, Nat.zero_le _⟩ (fun x9 H locs ix9 hH hS hF1 => ?_)
    refine lv_istore_n (lv' := [(3, .int x9), (0, .ref a0), (1, .int y1), (2, .int v40_2)]) hx hb dX11_doom_44 rfl hl (by decide) rfl (fun ls hl => ?_)
    refine lv_aload_n hx hb dX11_doom_45 rfl (lv_at hl 1 rfl) ?_
    refine th_callVv (n := 0) (As := []) S hK hH hS (th_A.sub (by decide)) (m_X11_bringBack l D cT T q hT hq a0 t0) gm_1768 gm_1765 gm_1767 gm_99 gm_124 (by decide +kernel) ⟨rfl, rfl, Nat.le_of_ble_eq_true rfl, Nat.le_of_ble_eq_true rfl⟩ t0 km_0 rfl rfl hl.1 rfl (Nat.le_of_ble_eq_true rfl) dX11_doom_46 ⟨Nat.zero_le _, Nat.zero_le _⟩ (fun H locs hH hS hF1 => ?_)
    refine lv_iload_n hx hb dX11_doom_49 rfl (lv_at hl 0 rfl) ?_
    refine lv_if_ne (tgt := 55) hx hb dX11_doom_50 (by decide) (fun c10 => ?_) (fun c10 => ?_)
    · skip
      have rlc10 : x9.toInt ≠ (0 : Int) := iv_ne c10
      refine lv_iconst (v := 0) hx hb dX11_doom_55 (by decide) ?_
      refine lv_istore (lv' := [(4, .int 0), (3, .int x9), (0, .ref a0), (1, .int y1), (2, .int v40_2)]) hx hb dX11_doom_56 hl (by decide) rfl (fun ls hl => ?_)
      exact J58 ((31 + 1 - Int32.toInt 0).toNat + 1) H locs ls v40_2 x9 0 iv40_2 ix9 (iv_w (iv_c (by decide) : IV 0 0 0) (by decide)) c10 f40_y1 (show nobit x9 (0 : Int) by first | exact nobit0 _ | (rw [e0]; exact hb1)) (show x9.toInt ≠ 0 by omega) hH hS (lv_sub hl [3, 4, 1, 0] rfl) (Nat.lt_succ_self _)
    · skip
      have rlc10 : x9.toInt = (0 : Int) := congrArg Int32.toInt c10
      have ir11 : IV x9 0 0 := iv_eL c10 (iv_c (by decide) : IV 0 0 0)
      have ir11a := ir11.1; have ir11b := ir11.2
      refine lv_iconst (v := (-1)) hx hb dX11_doom_53 (by decide) ?_
      exact th_iret S hK hH hS hr hlocks (th_R.i (iv_w (iv_c (by decide) : IV (-1) (-1) (-1)) (by decide))) dX11_doom_54
  have J17 : ∀ (n : Nat) (H : Heap) (locs : List Loc) (ls : Array Slot) (v17_2 : Int32), IV v17_2 0 30 → IV y1 0 1 → th_H D cT T (km q) H → va_S (th_A T [0, 32, 33, 35]) s.heap H locs → lv_has ls 5 [(0, .ref a0), (1, .int y1), (2, .int v17_2)] → (30 + 1 - Int32.toInt v17_2).toNat < n → W p l e (rmk 6 138) s m [.ref a0, .int y1].toArray below meth c H locs 0 0 (MQ below (th_Q D cT T (km q) (th_R T (some (.inl (-1, 31)))) [0, 32, 33, 35]) [.ref a0, .int y1].toArray s 0 0 (th_A T [0, 32, 33, 35])) (F0 m 17 ls []) := by
    intro n
    induction n with
    | zero => intro H locs ls v17_2 iv17_2 f17_y1 hH hS hl hn; exact absurd hn (Nat.not_lt_zero _)
    | succ n ih17 =>
      intro H locs ls v17_2 iv17_2 f17_y1 hH hS hl hn17
      have l1v17_2 := iv17_2.1; have l2v17_2 := iv17_2.2
      refine lv_iload_n hx hb dX11_doom_17 rfl (lv_at hl 2 rfl) ?_
      refine lv_bipush (v := 30) hx hb dX11_doom_18 (by decide) ?_
      refine lv_icmp_ge (tgt := 40) hx hb dX11_doom_20 (by decide) (fun c12 => ?_) (fun c12 => ?_)
      · skip
        have rlc12 : (30 : Int) ≤ v17_2.toInt := iv_le c12
        have ir13 : IV v17_2 30 30 := iv_vR (iv_c (by decide) : IV 30 30 30) iv17_2 (iv_le c12) (by decide)
        have ir13a := ir13.1; have ir13b := ir13.2
        exact J40 H locs ls v17_2 (iv_w ir13 (by decide)) f17_y1 hH hS (lv_sub hl [0, 1, 2] rfl)
      · skip
        have rlc12 : v17_2.toInt < (30 : Int) := iv_nle c12
        have ir14 : IV v17_2 0 29 := iv_uL iv17_2 (iv_c (by decide) : IV 30 30 30) (iv_nle c12) (by decide)
        have ir14a := ir14.1; have ir14b := ir14.2
        refine lv_aload_n hx hb dX11_doom_23 rfl (lv_at hl 0 rfl) ?_
        refine th_callVi (n := 0) (As := []) S hK hH hS (th_A.sub (by decide)) (m_X11_lost l D cT T q hT hq a0 t0) gm_1780 gm_1777 gm_1779 gm_100 gm_124 (by decide +kernel) ⟨rfl, rfl, Nat.le_of_ble_eq_true rfl, Nat.le_of_ble_eq_true rfl⟩ t0 km_0 rfl rfl hl.1 rfl (Nat.le_of_ble_eq_true rfl) dX11_doom_24 ⟨Nat.zero_le _, Nat.zero_le _⟩ (fun x15 H locs ix15 hH hS hF1 => ?_)
        refine lv_if_ne (tgt := 40) hx hb dX11_doom_27 (by decide) (fun c16 => ?_) (fun c16 => ?_)
        · skip
          have rlc16 : x15.toInt ≠ (0 : Int) := iv_ne c16
          exact J40 H locs ls v17_2 (iv_w ir14 (by decide)) f17_y1 hH hS (lv_sub hl [0, 1, 2] rfl)
        · skip
          have rlc16 : x15.toInt = (0 : Int) := congrArg Int32.toInt c16
          have ir17 : IV x15 0 0 := iv_eL c16 (iv_c (by decide) : IV 0 0 0)
          have ir17a := ir17.1; have ir17b := ir17.2
          refine lv_aload_n hx hb dX11_doom_30 rfl (lv_at hl 0 rfl) ?_
          refine th_callVv (n := 0) (As := []) S hK hH hS (th_A.sub (by decide)) (m_X11_goYear l D cT T q hT hq a0 t0) gm_1717 gm_1714 gm_1716 gm_93 gm_124 (by decide +kernel) ⟨rfl, rfl, Nat.le_of_ble_eq_true rfl, Nat.le_of_ble_eq_true rfl⟩ t0 km_0 rfl rfl hl.1 rfl (Nat.le_of_ble_eq_true rfl) dX11_doom_31 ⟨Nat.zero_le _, Nat.zero_le _⟩ (fun H locs hH hS hF1 => ?_)
          refine th_iinc S dX11_doom_34 hl (k := 2) rfl (by decide) ir14 (by decide) (fun x18 ls ex18 ix18 hl => ?_)
          have hl : lv_has ls 5 [(2, .int x18), (0, .ref a0), (1, .int y1)] := hl
          have ix18 : IV x18 1 30 := ix18
          refine lv_goto (tgt := 17) hx hb dX11_doom_37 (by decide) ?_
          exact ih17 H locs ls x18 (iv_w ix18 (by decide)) f17_y1 hH hS (lv_sub hl [1, 2, 0] rfl) (th_up iv17_2 ex18 (by decide) hn17)
  have J0 : ∀ (H : Heap) (locs : List Loc) (ls : Array Slot), th_H D cT T (km q) H → va_S (th_A T [0, 32, 33, 35]) s.heap H locs → lv_has ls 5 [(0, .ref a0), (1, .int y1)] → W p l e (rmk 6 138) s m [.ref a0, .int y1].toArray below meth c H locs 0 0 (MQ below (th_Q D cT T (km q) (th_R T (some (.inl (-1, 31)))) [0, 32, 33, 35]) [.ref a0, .int y1].toArray s 0 0 (th_A T [0, 32, 33, 35])) (F0 m 0 ls []) := by
    intro H locs ls hH hS hl
    refine lv_iload_n hx hb dX11_doom_0 rfl (lv_at hl 1 rfl) ?_
    refine lv_iconst (v := 0) hx hb dX11_doom_1 (by decide) ?_
    refine lv_iconst (v := 1) hx hb dX11_doom_2 (by decide) ?_
    refine th_callSp (n := 3) (As := [.int y1, .int 0, .int 1]) S hK hH hS (th_A.sub (by decide)) (m_X11_isIn l D cT T q hT hq (y1) j1 (0) (iv_top _) (1) (iv_top _)) gm_1618 gm_1616 gm_1617 gm_124 (by decide +kernel) ⟨rfl, rfl, Nat.le_of_ble_eq_true rfl, Nat.le_of_ble_eq_true rfl⟩ rfl hl.1 rfl (Nat.le_of_ble_eq_true rfl) dX11_doom_3 ⟨Nat.zero_le _, Nat.zero_le _⟩ (fun x19 H locs ix19 ox19 hH hS hF1 => ?_)
    obtain ⟨ox19_0, ox19_1⟩ := ox19
    have ox19_0 : x19.toInt ≠ 0 → (0 : Int) ≤ y1.toInt ∧ y1.toInt ≤ (1 : Int) := ox19_0
    have ox19_1 : x19.toInt = 0 → y1.toInt < (0 : Int) ∨ (1 : Int) < y1.toInt := ox19_1
    refine lv_if_ne (tgt := 11) hx hb dX11_doom_6 (by decide) (fun c20 => ?_) (fun c20 => ?_)
    · skip
      have rlc20 : x19.toInt ≠ (0 : Int) := iv_ne c20
      have ir21 : IV x19 1 1 := iv_cutL ix19 (iv_c (by decide) : IV 0 0 0) c20 (by decide)
      have ir21a := ir21.1; have ir21b := ir21.2
      have ir22 : IV y1 0 1 := ((fun z => by have z1 := iv_ne z; have z2 : x19.toInt ≠ 0 := z1; have z4 := ((iv_c (by decide) : IV 0 0 0)).1; have z5 := ((iv_c (by decide) : IV 1 1 1)).2; exact ⟨by omega, by omega⟩) : ¬ x19 = 0 → IV y1 0 1) c20
      have ir22a := ir22.1; have ir22b := ir22.2
      refine lv_aload_n hx hb dX11_doom_11 rfl (lv_at hl 0 rfl) ?_
      refine th_callVv (n := 0) (As := []) S hK hH hS (th_A.sub (by decide)) (m_X11_keepNow l D cT T q hT hq a0 t0) gm_1713 gm_1710 gm_1712 gm_92 gm_124 (by decide +kernel) ⟨rfl, rfl, Nat.le_of_ble_eq_true rfl, Nat.le_of_ble_eq_true rfl⟩ t0 km_0 rfl rfl hl.1 rfl (Nat.le_of_ble_eq_true rfl) dX11_doom_12 ⟨Nat.zero_le _, Nat.zero_le _⟩ (fun H locs hH hS hF1 => ?_)
      refine lv_iconst (v := 0) hx hb dX11_doom_15 (by decide) ?_
      refine lv_istore_n (lv' := [(2, .int 0), (0, .ref a0), (1, .int y1)]) hx hb dX11_doom_16 rfl hl (by decide) rfl (fun ls hl => ?_)
      exact J17 ((30 + 1 - Int32.toInt 0).toNat + 1) H locs ls 0 (iv_w (iv_c (by decide) : IV 0 0 0) (by decide)) ir22 hH hS (lv_sub hl [1, 2, 0] rfl) (Nat.lt_succ_self _)
    · skip
      have rlc20 : x19.toInt = (0 : Int) := congrArg Int32.toInt c20
      have ir23 : IV x19 0 0 := iv_eL c20 (iv_c (by decide) : IV 0 0 0)
      have ir23a := ir23.1; have ir23b := ir23.2
      refine lv_iconst (v := (-1)) hx hb dX11_doom_9 (by decide) ?_
      exact th_iret S hK hH hS hr hlocks (th_R.i (iv_w (iv_c (by decide) : IV (-1) (-1) (-1)) (by decide))) dX11_doom_10
  exact J0 s.heap [] ls hH va_S.rf hl
