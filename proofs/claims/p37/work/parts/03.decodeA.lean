theorem dX0_init_0 : decode cX0_init 0 = .ok (.aload_n 0, 1) := by decide +kernel
theorem dX0_init_1 : decode cX0_init 1 = .ok (.invokespecial 3, 3) := by decide +kernel
theorem dX0_init_4 : decode cX0_init 4 = .ok (.aload_n 0, 1) := by decide +kernel
theorem dX0_init_5 : decode cX0_init 5 = .ok (.aload_n 1, 1) := by decide +kernel
theorem dX0_init_6 : decode cX0_init 6 = .ok (.putfield 9, 3) := by decide +kernel
theorem dX0_init_9 : decode cX0_init 9 = .ok (.return_, 1) := by decide +kernel
theorem dX0_hungerOf_0 : decode cX0_hungerOf 0 = .ok (.aload_n 1, 1) := by decide +kernel
theorem dX0_hungerOf_1 : decode cX0_hungerOf 1 = .ok (.getfield 15, 3) := by decide +kernel
theorem dX0_hungerOf_4 : decode cX0_hungerOf 4 = .ok (.bipush 39, 2) := by decide +kernel
theorem dX0_hungerOf_6 : decode cX0_hungerOf 6 = .ok (.iaload, 1) := by decide +kernel
theorem dX0_hungerOf_7 : decode cX0_hungerOf 7 = .ok (.iload_n 2, 1) := by decide +kernel
theorem dX0_hungerOf_8 : decode cX0_hungerOf 8 = .ok (.ishr, 1) := by decide +kernel
theorem dX0_hungerOf_9 : decode cX0_hungerOf 9 = .ok (.iconst 1, 1) := by decide +kernel
theorem dX0_hungerOf_10 : decode cX0_hungerOf 10 = .ok (.iand, 1) := by decide +kernel
theorem dX0_hungerOf_11 : decode cX0_hungerOf 11 = .ok (.ifCond .eq 5, 3) := by decide +kernel
theorem dX0_hungerOf_14 : decode cX0_hungerOf 14 = .ok (.iconst 0, 1) := by decide +kernel
theorem dX0_hungerOf_15 : decode cX0_hungerOf 15 = .ok (.ireturn, 1) := by decide +kernel
theorem dX0_hungerOf_16 : decode cX0_hungerOf 16 = .ok (.aload_n 0, 1) := by decide +kernel
theorem dX0_hungerOf_17 : decode cX0_hungerOf 17 = .ok (.aload_n 1, 1) := by decide +kernel
theorem dX0_hungerOf_18 : decode cX0_hungerOf 18 = .ok (.iload_n 2, 1) := by decide +kernel
theorem dX0_hungerOf_19 : decode cX0_hungerOf 19 = .ok (.iconst 0, 1) := by decide +kernel
theorem dX0_hungerOf_20 : decode cX0_hungerOf 20 = .ok (.iconst 0, 1) := by decide +kernel
theorem dX0_hungerOf_21 : decode cX0_hungerOf 21 = .ok (.iconst 0, 1) := by decide +kernel
theorem dX0_hungerOf_22 : decode cX0_hungerOf 22 = .ok (.invokevirtual 21, 3) := by decide +kernel
theorem dX0_hungerOf_25 : decode cX0_hungerOf 25 = .ok (.bipush 99, 2) := by decide +kernel
theorem dX0_hungerOf_27 : decode cX0_hungerOf 27 = .ok (.iconst 0, 1) := by decide +kernel
theorem dX0_hungerOf_28 : decode cX0_hungerOf 28 = .ok (.aload_n 0, 1) := by decide +kernel
theorem dX0_hungerOf_29 : decode cX0_hungerOf 29 = .ok (.getfield 9, 3) := by decide +kernel
theorem dX0_hungerOf_32 : decode cX0_hungerOf 32 = .ok (.getfield 25, 3) := by decide +kernel
theorem dX0_hungerOf_35 : decode cX0_hungerOf 35 = .ok (.iload_n 2, 1) := by decide +kernel
theorem dX0_hungerOf_36 : decode cX0_hungerOf 36 = .ok (.invokevirtual 31, 3) := by decide +kernel
theorem dX0_hungerOf_39 : decode cX0_hungerOf 39 = .ok (.invokestatic 37, 3) := by decide +kernel
theorem dX0_hungerOf_42 : decode cX0_hungerOf 42 = .ok (.invokestatic 43, 3) := by decide +kernel
theorem dX0_hungerOf_45 : decode cX0_hungerOf 45 = .ok (.istore_n 3, 1) := by decide +kernel
theorem dX0_hungerOf_46 : decode cX0_hungerOf 46 = .ok (.bipush 99, 2) := by decide +kernel
theorem dX0_hungerOf_48 : decode cX0_hungerOf 48 = .ok (.iload_n 3, 1) := by decide +kernel
theorem dX0_hungerOf_49 : decode cX0_hungerOf 49 = .ok (.iconst 2, 1) := by decide +kernel
theorem dX0_hungerOf_50 : decode cX0_hungerOf 50 = .ok (.aload_n 0, 1) := by decide +kernel
theorem dX0_hungerOf_51 : decode cX0_hungerOf 51 = .ok (.aload_n 1, 1) := by decide +kernel
theorem dX0_hungerOf_52 : decode cX0_hungerOf 52 = .ok (.iload_n 2, 1) := by decide +kernel
theorem dX0_hungerOf_53 : decode cX0_hungerOf 53 = .ok (.invokevirtual 46, 3) := by decide +kernel
theorem dX0_hungerOf_56 : decode cX0_hungerOf 56 = .ok (.imul, 1) := by decide +kernel
theorem dX0_hungerOf_57 : decode cX0_hungerOf 57 = .ok (.iadd, 1) := by decide +kernel
theorem dX0_hungerOf_58 : decode cX0_hungerOf 58 = .ok (.invokestatic 43, 3) := by decide +kernel
theorem dX0_hungerOf_61 : decode cX0_hungerOf 61 = .ok (.ireturn, 1) := by decide +kernel
theorem dX0_bitingBorders_0 : decode cX0_bitingBorders 0 = .ok (.aload_n 1, 1) := by decide +kernel
theorem dX0_bitingBorders_1 : decode cX0_bitingBorders 1 = .ok (.getfield 15, 3) := by decide +kernel
theorem dX0_bitingBorders_4 : decode cX0_bitingBorders 4 = .ok (.bipush 39, 2) := by decide +kernel
theorem dX0_bitingBorders_6 : decode cX0_bitingBorders 6 = .ok (.iaload, 1) := by decide +kernel
theorem dX0_bitingBorders_7 : decode cX0_bitingBorders 7 = .ok (.iconst (-1), 1) := by decide +kernel
theorem dX0_bitingBorders_8 : decode cX0_bitingBorders 8 = .ok (.ixor, 1) := by decide +kernel
theorem dX0_bitingBorders_9 : decode cX0_bitingBorders 9 = .ok (.istore_n 3, 1) := by decide +kernel
theorem dX0_bitingBorders_10 : decode cX0_bitingBorders 10 = .ok (.iload_n 3, 1) := by decide +kernel
theorem dX0_bitingBorders_11 : decode cX0_bitingBorders 11 = .ok (.iload_n 2, 1) := by decide +kernel
theorem dX0_bitingBorders_12 : decode cX0_bitingBorders 12 = .ok (.ishr, 1) := by decide +kernel
theorem dX0_bitingBorders_13 : decode cX0_bitingBorders 13 = .ok (.iconst 1, 1) := by decide +kernel
theorem dX0_bitingBorders_14 : decode cX0_bitingBorders 14 = .ok (.iand, 1) := by decide +kernel
theorem dX0_bitingBorders_15 : decode cX0_bitingBorders 15 = .ok (.ifCond .ne 5, 3) := by decide +kernel
theorem dX0_bitingBorders_18 : decode cX0_bitingBorders 18 = .ok (.iconst 0, 1) := by decide +kernel
theorem dX0_bitingBorders_19 : decode cX0_bitingBorders 19 = .ok (.ireturn, 1) := by decide +kernel
theorem dX0_bitingBorders_20 : decode cX0_bitingBorders 20 = .ok (.iconst 0, 1) := by decide +kernel
theorem dX0_bitingBorders_21 : decode cX0_bitingBorders 21 = .ok (.istore 4, 2) := by decide +kernel
theorem dX0_bitingBorders_23 : decode cX0_bitingBorders 23 = .ok (.iconst 0, 1) := by decide +kernel
theorem dX0_bitingBorders_24 : decode cX0_bitingBorders 24 = .ok (.istore 5, 2) := by decide +kernel
theorem dX0_bitingBorders_26 : decode cX0_bitingBorders 26 = .ok (.iload 5, 2) := by decide +kernel
theorem dX0_bitingBorders_28 : decode cX0_bitingBorders 28 = .ok (.aload_n 0, 1) := by decide +kernel
theorem dX0_bitingBorders_29 : decode cX0_bitingBorders 29 = .ok (.getfield 9, 3) := by decide +kernel
theorem dX0_bitingBorders_32 : decode cX0_bitingBorders 32 = .ok (.getfield 50, 3) := by decide +kernel
theorem dX0_bitingBorders_35 : decode cX0_bitingBorders 35 = .ok (.if_icmp .ge 65, 3) := by decide +kernel
theorem dX0_bitingBorders_38 : decode cX0_bitingBorders 38 = .ok (.aload_n 1, 1) := by decide +kernel
theorem dX0_bitingBorders_39 : decode cX0_bitingBorders 39 = .ok (.getfield 15, 3) := by decide +kernel
theorem dX0_bitingBorders_42 : decode cX0_bitingBorders 42 = .ok (.bipush 35, 2) := by decide +kernel
theorem dX0_bitingBorders_44 : decode cX0_bitingBorders 44 = .ok (.iload 5, 2) := by decide +kernel
theorem dX0_bitingBorders_46 : decode cX0_bitingBorders 46 = .ok (.iadd, 1) := by decide +kernel
theorem dX0_bitingBorders_47 : decode cX0_bitingBorders 47 = .ok (.iaload, 1) := by decide +kernel
theorem dX0_bitingBorders_48 : decode cX0_bitingBorders 48 = .ok (.aload_n 1, 1) := by decide +kernel
theorem dX0_bitingBorders_49 : decode cX0_bitingBorders 49 = .ok (.getfield 15, 3) := by decide +kernel
theorem dX0_bitingBorders_52 : decode cX0_bitingBorders 52 = .ok (.bipush 35, 2) := by decide +kernel
theorem dX0_bitingBorders_54 : decode cX0_bitingBorders 54 = .ok (.iload_n 2, 1) := by decide +kernel
theorem dX0_bitingBorders_55 : decode cX0_bitingBorders 55 = .ok (.iadd, 1) := by decide +kernel
theorem dX0_bitingBorders_56 : decode cX0_bitingBorders 56 = .ok (.iaload, 1) := by decide +kernel
theorem dX0_bitingBorders_57 : decode cX0_bitingBorders 57 = .ok (.if_icmp .ne 7, 3) := by decide +kernel
theorem dX0_bitingBorders_60 : decode cX0_bitingBorders 60 = .ok (.iconst 1, 1) := by decide +kernel
theorem dX0_bitingBorders_61 : decode cX0_bitingBorders 61 = .ok (.goto 4, 3) := by decide +kernel
theorem dX0_bitingBorders_64 : decode cX0_bitingBorders 64 = .ok (.iconst 0, 1) := by decide +kernel
theorem dX0_bitingBorders_65 : decode cX0_bitingBorders 65 = .ok (.istore 6, 2) := by decide +kernel
theorem dX0_bitingBorders_67 : decode cX0_bitingBorders 67 = .ok (.iload 6, 2) := by decide +kernel
theorem dX0_bitingBorders_69 : decode cX0_bitingBorders 69 = .ok (.ifCond .eq 25, 3) := by decide +kernel
theorem dX0_bitingBorders_72 : decode cX0_bitingBorders 72 = .ok (.aload_n 0, 1) := by decide +kernel
theorem dX0_bitingBorders_73 : decode cX0_bitingBorders 73 = .ok (.getfield 9, 3) := by decide +kernel
theorem dX0_bitingBorders_76 : decode cX0_bitingBorders 76 = .ok (.getfield 54, 3) := by decide +kernel
theorem dX0_bitingBorders_79 : decode cX0_bitingBorders 79 = .ok (.iload_n 2, 1) := by decide +kernel
theorem dX0_bitingBorders_80 : decode cX0_bitingBorders 80 = .ok (.iaload, 1) := by decide +kernel
theorem dX0_bitingBorders_81 : decode cX0_bitingBorders 81 = .ok (.iload_n 3, 1) := by decide +kernel
theorem dX0_bitingBorders_82 : decode cX0_bitingBorders 82 = .ok (.iand, 1) := by decide +kernel
theorem dX0_bitingBorders_83 : decode cX0_bitingBorders 83 = .ok (.iconst 1, 1) := by decide +kernel
theorem dX0_bitingBorders_84 : decode cX0_bitingBorders 84 = .ok (.iload 5, 2) := by decide +kernel
theorem dX0_bitingBorders_86 : decode cX0_bitingBorders 86 = .ok (.ishl, 1) := by decide +kernel
theorem dX0_bitingBorders_87 : decode cX0_bitingBorders 87 = .ok (.iand, 1) := by decide +kernel
theorem dX0_bitingBorders_88 : decode cX0_bitingBorders 88 = .ok (.ifCond .eq 6, 3) := by decide +kernel
theorem dX0_bitingBorders_91 : decode cX0_bitingBorders 91 = .ok (.iinc 4 1, 3) := by decide +kernel
theorem dX0_bitingBorders_94 : decode cX0_bitingBorders 94 = .ok (.iinc 5 1, 3) := by decide +kernel
theorem dX0_bitingBorders_97 : decode cX0_bitingBorders 97 = .ok (.goto (-71), 3) := by decide +kernel
theorem dX0_bitingBorders_100 : decode cX0_bitingBorders 100 = .ok (.iload 4, 2) := by decide +kernel
theorem dX0_bitingBorders_102 : decode cX0_bitingBorders 102 = .ok (.ireturn, 1) := by decide +kernel
theorem dX0_givenTo_0 : decode cX0_givenTo 0 = .ok (.iconst 0, 1) := by decide +kernel
theorem dX0_givenTo_1 : decode cX0_givenTo 1 = .ok (.istore_n 3, 1) := by decide +kernel
theorem dX0_givenTo_2 : decode cX0_givenTo 2 = .ok (.iconst 0, 1) := by decide +kernel
theorem dX0_givenTo_3 : decode cX0_givenTo 3 = .ok (.istore 4, 2) := by decide +kernel
theorem dX0_givenTo_5 : decode cX0_givenTo 5 = .ok (.iload 4, 2) := by decide +kernel
theorem dX0_givenTo_7 : decode cX0_givenTo 7 = .ok (.aload_n 0, 1) := by decide +kernel
theorem dX0_givenTo_8 : decode cX0_givenTo 8 = .ok (.getfield 9, 3) := by decide +kernel
theorem dX0_givenTo_11 : decode cX0_givenTo 11 = .ok (.getfield 57, 3) := by decide +kernel
theorem dX0_givenTo_14 : decode cX0_givenTo 14 = .ok (.if_icmp .ge 40, 3) := by decide +kernel
theorem dX0_givenTo_17 : decode cX0_givenTo 17 = .ok (.iload_n 2, 1) := by decide +kernel
theorem dX0_givenTo_18 : decode cX0_givenTo 18 = .ok (.iconst 3, 1) := by decide +kernel
theorem dX0_givenTo_19 : decode cX0_givenTo 19 = .ok (.imul, 1) := by decide +kernel
theorem dX0_givenTo_20 : decode cX0_givenTo 20 = .ok (.iload 4, 2) := by decide +kernel
theorem dX0_givenTo_22 : decode cX0_givenTo 22 = .ok (.iadd, 1) := by decide +kernel
theorem dX0_givenTo_23 : decode cX0_givenTo 23 = .ok (.istore 5, 2) := by decide +kernel
theorem dX0_givenTo_25 : decode cX0_givenTo 25 = .ok (.iload_n 3, 1) := by decide +kernel
theorem dX0_givenTo_26 : decode cX0_givenTo 26 = .ok (.aload_n 1, 1) := by decide +kernel
theorem dX0_givenTo_27 : decode cX0_givenTo 27 = .ok (.getfield 15, 3) := by decide +kernel
theorem dX0_givenTo_30 : decode cX0_givenTo 30 = .ok (.iconst 3, 1) := by decide +kernel
theorem dX0_givenTo_31 : decode cX0_givenTo 31 = .ok (.iload 5, 2) := by decide +kernel
theorem dX0_givenTo_33 : decode cX0_givenTo 33 = .ok (.iadd, 1) := by decide +kernel
theorem dX0_givenTo_34 : decode cX0_givenTo 34 = .ok (.iaload, 1) := by decide +kernel
theorem dX0_givenTo_35 : decode cX0_givenTo 35 = .ok (.aload_n 0, 1) := by decide +kernel
theorem dX0_givenTo_36 : decode cX0_givenTo 36 = .ok (.getfield 9, 3) := by decide +kernel
theorem dX0_givenTo_39 : decode cX0_givenTo 39 = .ok (.getfield 60, 3) := by decide +kernel
theorem dX0_givenTo_42 : decode cX0_givenTo 42 = .ok (.iload 5, 2) := by decide +kernel
theorem dX0_givenTo_44 : decode cX0_givenTo 44 = .ok (.iaload, 1) := by decide +kernel
theorem dX0_givenTo_45 : decode cX0_givenTo 45 = .ok (.imul, 1) := by decide +kernel
theorem dX0_givenTo_46 : decode cX0_givenTo 46 = .ok (.iadd, 1) := by decide +kernel
theorem dX0_givenTo_47 : decode cX0_givenTo 47 = .ok (.istore_n 3, 1) := by decide +kernel
theorem dX0_givenTo_48 : decode cX0_givenTo 48 = .ok (.iinc 4 1, 3) := by decide +kernel
theorem dX0_givenTo_51 : decode cX0_givenTo 51 = .ok (.goto (-46), 3) := by decide +kernel
theorem dX0_givenTo_54 : decode cX0_givenTo 54 = .ok (.iload_n 3, 1) := by decide +kernel
theorem dX0_givenTo_55 : decode cX0_givenTo 55 = .ok (.ireturn, 1) := by decide +kernel
theorem dX0_tasteOf_0 : decode cX0_tasteOf 0 = .ok (.aload_n 0, 1) := by decide +kernel
theorem dX0_tasteOf_1 : decode cX0_tasteOf 1 = .ok (.getfield 9, 3) := by decide +kernel
theorem dX0_tasteOf_4 : decode cX0_tasteOf 4 = .ok (.getfield 63, 3) := by decide +kernel
theorem dX0_tasteOf_7 : decode cX0_tasteOf 7 = .ok (.ifCond .ne 13, 3) := by decide +kernel
theorem dX0_tasteOf_10 : decode cX0_tasteOf 10 = .ok (.aload_n 1, 1) := by decide +kernel
theorem dX0_tasteOf_11 : decode cX0_tasteOf 11 = .ok (.getfield 15, 3) := by decide +kernel
theorem dX0_tasteOf_14 : decode cX0_tasteOf 14 = .ok (.bipush 15, 2) := by decide +kernel
theorem dX0_tasteOf_16 : decode cX0_tasteOf 16 = .ok (.iload_n 2, 1) := by decide +kernel
theorem dX0_tasteOf_17 : decode cX0_tasteOf 17 = .ok (.iadd, 1) := by decide +kernel
theorem dX0_tasteOf_18 : decode cX0_tasteOf 18 = .ok (.iaload, 1) := by decide +kernel
theorem dX0_tasteOf_19 : decode cX0_tasteOf 19 = .ok (.ireturn, 1) := by decide +kernel
theorem dX0_tasteOf_20 : decode cX0_tasteOf 20 = .ok (.aload_n 0, 1) := by decide +kernel
theorem dX0_tasteOf_21 : decode cX0_tasteOf 21 = .ok (.aload_n 1, 1) := by decide +kernel
theorem dX0_tasteOf_22 : decode cX0_tasteOf 22 = .ok (.iload_n 3, 1) := by decide +kernel
theorem dX0_tasteOf_23 : decode cX0_tasteOf 23 = .ok (.aload_n 1, 1) := by decide +kernel
theorem dX0_tasteOf_24 : decode cX0_tasteOf 24 = .ok (.getfield 15, 3) := by decide +kernel
theorem dX0_tasteOf_27 : decode cX0_tasteOf 27 = .ok (.bipush 15, 2) := by decide +kernel
theorem dX0_tasteOf_29 : decode cX0_tasteOf 29 = .ok (.iload_n 2, 1) := by decide +kernel
theorem dX0_tasteOf_30 : decode cX0_tasteOf 30 = .ok (.iadd, 1) := by decide +kernel
theorem dX0_tasteOf_31 : decode cX0_tasteOf 31 = .ok (.iaload, 1) := by decide +kernel
theorem dX0_tasteOf_32 : decode cX0_tasteOf 32 = .ok (.aload_n 0, 1) := by decide +kernel
theorem dX0_tasteOf_33 : decode cX0_tasteOf 33 = .ok (.getfield 9, 3) := by decide +kernel
theorem dX0_tasteOf_36 : decode cX0_tasteOf 36 = .ok (.getfield 67, 3) := by decide +kernel
theorem dX0_tasteOf_39 : decode cX0_tasteOf 39 = .ok (.iload_n 2, 1) := by decide +kernel
theorem dX0_tasteOf_40 : decode cX0_tasteOf 40 = .ok (.iaload, 1) := by decide +kernel
theorem dX0_tasteOf_41 : decode cX0_tasteOf 41 = .ok (.aload_n 1, 1) := by decide +kernel
theorem dX0_tasteOf_42 : decode cX0_tasteOf 42 = .ok (.getfield 15, 3) := by decide +kernel
theorem dX0_tasteOf_45 : decode cX0_tasteOf 45 = .ok (.bipush 23, 2) := by decide +kernel
theorem dX0_tasteOf_47 : decode cX0_tasteOf 47 = .ok (.iload_n 2, 1) := by decide +kernel
theorem dX0_tasteOf_48 : decode cX0_tasteOf 48 = .ok (.iadd, 1) := by decide +kernel
theorem dX0_tasteOf_49 : decode cX0_tasteOf 49 = .ok (.iaload, 1) := by decide +kernel
theorem dX0_tasteOf_50 : decode cX0_tasteOf 50 = .ok (.invokevirtual 21, 3) := by decide +kernel
theorem dX0_tasteOf_53 : decode cX0_tasteOf 53 = .ok (.aload_n 0, 1) := by decide +kernel
theorem dX0_tasteOf_54 : decode cX0_tasteOf 54 = .ok (.getfield 9, 3) := by decide +kernel
theorem dX0_tasteOf_57 : decode cX0_tasteOf 57 = .ok (.getfield 25, 3) := by decide +kernel
theorem dX0_tasteOf_60 : decode cX0_tasteOf 60 = .ok (.iconst 4, 1) := by decide +kernel
theorem dX0_tasteOf_61 : decode cX0_tasteOf 61 = .ok (.invokevirtual 31, 3) := by decide +kernel
theorem dX0_tasteOf_64 : decode cX0_tasteOf 64 = .ok (.ireturn, 1) := by decide +kernel
theorem dX0_setInputs_0 : decode cX0_setInputs 0 = .ok (.aload_n 0, 1) := by decide +kernel
theorem dX0_setInputs_1 : decode cX0_setInputs 1 = .ok (.getfield 9, 3) := by decide +kernel
theorem dX0_setInputs_4 : decode cX0_setInputs 4 = .ok (.getfield 25, 3) := by decide +kernel
theorem dX0_setInputs_7 : decode cX0_setInputs 7 = .ok (.getfield 70, 3) := by decide +kernel
theorem dX0_setInputs_10 : decode cX0_setInputs 10 = .ok (.astore 6, 2) := by decide +kernel
theorem dX0_setInputs_12 : decode cX0_setInputs 12 = .ok (.aload 6, 2) := by decide +kernel
theorem dX0_setInputs_14 : decode cX0_setInputs 14 = .ok (.iconst 0, 1) := by decide +kernel
theorem dX0_setInputs_15 : decode cX0_setInputs 15 = .ok (.aload_n 0, 1) := by decide +kernel
theorem dX0_setInputs_16 : decode cX0_setInputs 16 = .ok (.getfield 9, 3) := by decide +kernel
theorem dX0_setInputs_19 : decode cX0_setInputs 19 = .ok (.getfield 73, 3) := by decide +kernel
theorem dX0_setInputs_22 : decode cX0_setInputs 22 = .ok (.iload_n 2, 1) := by decide +kernel
theorem dX0_setInputs_23 : decode cX0_setInputs 23 = .ok (.iaload, 1) := by decide +kernel
theorem dX0_setInputs_24 : decode cX0_setInputs 24 = .ok (.iastore, 1) := by decide +kernel
theorem dX0_setInputs_25 : decode cX0_setInputs 25 = .ok (.aload 6, 2) := by decide +kernel
theorem dX0_setInputs_27 : decode cX0_setInputs 27 = .ok (.iconst 1, 1) := by decide +kernel
theorem dX0_setInputs_28 : decode cX0_setInputs 28 = .ok (.aload_n 1, 1) := by decide +kernel
theorem dX0_setInputs_29 : decode cX0_setInputs 29 = .ok (.getfield 15, 3) := by decide +kernel
theorem dX0_setInputs_32 : decode cX0_setInputs 32 = .ok (.bipush 40, 2) := by decide +kernel
theorem dX0_setInputs_34 : decode cX0_setInputs 34 = .ok (.iaload, 1) := by decide +kernel
theorem dX0_setInputs_35 : decode cX0_setInputs 35 = .ok (.iastore, 1) := by decide +kernel
theorem dX0_setInputs_36 : decode cX0_setInputs 36 = .ok (.aload 6, 2) := by decide +kernel
theorem dX0_setInputs_38 : decode cX0_setInputs 38 = .ok (.iconst 2, 1) := by decide +kernel
theorem dX0_setInputs_39 : decode cX0_setInputs 39 = .ok (.aload_n 1, 1) := by decide +kernel
theorem dX0_setInputs_40 : decode cX0_setInputs 40 = .ok (.getfield 15, 3) := by decide +kernel
theorem dX0_setInputs_43 : decode cX0_setInputs 43 = .ok (.bipush 31, 2) := by decide +kernel
theorem dX0_setInputs_45 : decode cX0_setInputs 45 = .ok (.iload_n 2, 1) := by decide +kernel
theorem dX0_setInputs_46 : decode cX0_setInputs 46 = .ok (.iadd, 1) := by decide +kernel
theorem dX0_setInputs_47 : decode cX0_setInputs 47 = .ok (.iaload, 1) := by decide +kernel
theorem dX0_setInputs_48 : decode cX0_setInputs 48 = .ok (.iastore, 1) := by decide +kernel
theorem dX0_setInputs_49 : decode cX0_setInputs 49 = .ok (.aload 6, 2) := by decide +kernel
theorem dX0_setInputs_51 : decode cX0_setInputs 51 = .ok (.iconst 3, 1) := by decide +kernel
theorem dX0_setInputs_52 : decode cX0_setInputs 52 = .ok (.aload_n 1, 1) := by decide +kernel
theorem dX0_setInputs_53 : decode cX0_setInputs 53 = .ok (.getfield 15, 3) := by decide +kernel
theorem dX0_setInputs_56 : decode cX0_setInputs 56 = .ok (.bipush 41, 2) := by decide +kernel
theorem dX0_setInputs_58 : decode cX0_setInputs 58 = .ok (.iaload, 1) := by decide +kernel
theorem dX0_setInputs_59 : decode cX0_setInputs 59 = .ok (.iastore, 1) := by decide +kernel
theorem dX0_setInputs_60 : decode cX0_setInputs 60 = .ok (.aload 6, 2) := by decide +kernel
theorem dX0_setInputs_62 : decode cX0_setInputs 62 = .ok (.iconst 4, 1) := by decide +kernel
theorem dX0_setInputs_63 : decode cX0_setInputs 63 = .ok (.iload_n 3, 1) := by decide +kernel
theorem dX0_setInputs_64 : decode cX0_setInputs 64 = .ok (.iastore, 1) := by decide +kernel
theorem dX0_setInputs_65 : decode cX0_setInputs 65 = .ok (.aload 6, 2) := by decide +kernel
theorem dX0_setInputs_67 : decode cX0_setInputs 67 = .ok (.iconst 5, 1) := by decide +kernel
theorem dX0_setInputs_68 : decode cX0_setInputs 68 = .ok (.iload 4, 2) := by decide +kernel
theorem dX0_setInputs_70 : decode cX0_setInputs 70 = .ok (.iastore, 1) := by decide +kernel
theorem dX0_setInputs_71 : decode cX0_setInputs 71 = .ok (.aload 6, 2) := by decide +kernel
theorem dX0_setInputs_73 : decode cX0_setInputs 73 = .ok (.bipush 6, 2) := by decide +kernel
theorem dX0_setInputs_75 : decode cX0_setInputs 75 = .ok (.iload 5, 2) := by decide +kernel
theorem dX0_setInputs_77 : decode cX0_setInputs 77 = .ok (.iastore, 1) := by decide +kernel
theorem dX0_setInputs_78 : decode cX0_setInputs 78 = .ok (.return_, 1) := by decide +kernel
theorem dX0_passYear_0 : decode cX0_passYear 0 = .ok (.iconst 0, 1) := by decide +kernel
theorem dX0_passYear_1 : decode cX0_passYear 1 = .ok (.istore_n 2, 1) := by decide +kernel
theorem dX0_passYear_2 : decode cX0_passYear 2 = .ok (.iload_n 2, 1) := by decide +kernel
theorem dX0_passYear_3 : decode cX0_passYear 3 = .ok (.aload_n 0, 1) := by decide +kernel
theorem dX0_passYear_4 : decode cX0_passYear 4 = .ok (.getfield 9, 3) := by decide +kernel
theorem dX0_passYear_7 : decode cX0_passYear 7 = .ok (.getfield 50, 3) := by decide +kernel
theorem dX0_passYear_10 : decode cX0_passYear 10 = .ok (.if_icmp .ge 21, 3) := by decide +kernel
theorem dX0_passYear_13 : decode cX0_passYear 13 = .ok (.aload_n 0, 1) := by decide +kernel
theorem dX0_passYear_14 : decode cX0_passYear 14 = .ok (.aload_n 1, 1) := by decide +kernel
theorem dX0_passYear_15 : decode cX0_passYear 15 = .ok (.iload_n 2, 1) := by decide +kernel
theorem dX0_passYear_16 : decode cX0_passYear 16 = .ok (.aload_n 0, 1) := by decide +kernel
theorem dX0_passYear_17 : decode cX0_passYear 17 = .ok (.aload_n 1, 1) := by decide +kernel
theorem dX0_passYear_18 : decode cX0_passYear 18 = .ok (.iload_n 2, 1) := by decide +kernel
theorem dX0_passYear_19 : decode cX0_passYear 19 = .ok (.invokevirtual 76, 3) := by decide +kernel
theorem dX0_passYear_22 : decode cX0_passYear 22 = .ok (.invokevirtual 79, 3) := by decide +kernel
theorem dX0_passYear_25 : decode cX0_passYear 25 = .ok (.iinc 2 1, 3) := by decide +kernel
theorem dX0_passYear_28 : decode cX0_passYear 28 = .ok (.goto (-26), 3) := by decide +kernel
theorem dX0_passYear_31 : decode cX0_passYear 31 = .ok (.aload_n 0, 1) := by decide +kernel
theorem dX0_passYear_32 : decode cX0_passYear 32 = .ok (.aload_n 1, 1) := by decide +kernel
theorem dX0_passYear_33 : decode cX0_passYear 33 = .ok (.invokevirtual 83, 3) := by decide +kernel
theorem dX0_passYear_36 : decode cX0_passYear 36 = .ok (.return_, 1) := by decide +kernel
theorem dX0_eat_0 : decode cX0_eat 0 = .ok (.iload_n 3, 1) := by decide +kernel
theorem dX0_eat_1 : decode cX0_eat 1 = .ok (.aload_n 0, 1) := by decide +kernel
theorem dX0_eat_2 : decode cX0_eat 2 = .ok (.aload_n 1, 1) := by decide +kernel
theorem dX0_eat_3 : decode cX0_eat 3 = .ok (.iload_n 2, 1) := by decide +kernel
theorem dX0_eat_4 : decode cX0_eat 4 = .ok (.invokevirtual 87, 3) := by decide +kernel
theorem dX0_eat_7 : decode cX0_eat 7 = .ok (.isub, 1) := by decide +kernel
theorem dX0_eat_8 : decode cX0_eat 8 = .ok (.istore 4, 2) := by decide +kernel
theorem dX0_eat_10 : decode cX0_eat 10 = .ok (.iconst 0, 1) := by decide +kernel
theorem dX0_eat_11 : decode cX0_eat 11 = .ok (.istore 5, 2) := by decide +kernel
theorem dX0_eat_13 : decode cX0_eat 13 = .ok (.iload 5, 2) := by decide +kernel
theorem dX0_eat_15 : decode cX0_eat 15 = .ok (.bipush 8, 2) := by decide +kernel
theorem dX0_eat_17 : decode cX0_eat 17 = .ok (.if_icmp .ge 98, 3) := by decide +kernel
theorem dX0_eat_20 : decode cX0_eat 20 = .ok (.iload 4, 2) := by decide +kernel
theorem dX0_eat_22 : decode cX0_eat 22 = .ok (.ifCond .le 93, 3) := by decide +kernel
theorem dX0_eat_25 : decode cX0_eat 25 = .ok (.aload_n 0, 1) := by decide +kernel
theorem dX0_eat_26 : decode cX0_eat 26 = .ok (.aload_n 1, 1) := by decide +kernel
theorem dX0_eat_27 : decode cX0_eat 27 = .ok (.iload_n 2, 1) := by decide +kernel
theorem dX0_eat_28 : decode cX0_eat 28 = .ok (.invokevirtual 90, 3) := by decide +kernel
theorem dX0_eat_31 : decode cX0_eat 31 = .ok (.istore 6, 2) := by decide +kernel
theorem dX0_eat_33 : decode cX0_eat 33 = .ok (.iload 6, 2) := by decide +kernel
theorem dX0_eat_35 : decode cX0_eat 35 = .ok (.iconst (-1), 1) := by decide +kernel
theorem dX0_eat_36 : decode cX0_eat 36 = .ok (.if_icmp .ne 6, 3) := by decide +kernel
theorem dX0_eat_39 : decode cX0_eat 39 = .ok (.goto 76, 3) := by decide +kernel
theorem dX0_eat_42 : decode cX0_eat 42 = .ok (.iload 4, 2) := by decide +kernel
theorem dX0_eat_44 : decode cX0_eat 44 = .ok (.aload_n 1, 1) := by decide +kernel
theorem dX0_eat_45 : decode cX0_eat 45 = .ok (.getfield 15, 3) := by decide +kernel
theorem dX0_eat_48 : decode cX0_eat 48 = .ok (.bipush 15, 2) := by decide +kernel
theorem dX0_eat_50 : decode cX0_eat 50 = .ok (.iload 6, 2) := by decide +kernel
theorem dX0_eat_52 : decode cX0_eat 52 = .ok (.iadd, 1) := by decide +kernel
theorem dX0_eat_53 : decode cX0_eat 53 = .ok (.iaload, 1) := by decide +kernel
theorem dX0_eat_54 : decode cX0_eat 54 = .ok (.invokestatic 43, 3) := by decide +kernel
theorem dX0_eat_57 : decode cX0_eat 57 = .ok (.istore 7, 2) := by decide +kernel
theorem dX0_eat_59 : decode cX0_eat 59 = .ok (.aload_n 1, 1) := by decide +kernel
theorem dX0_eat_60 : decode cX0_eat 60 = .ok (.getfield 15, 3) := by decide +kernel
theorem dX0_eat_63 : decode cX0_eat 63 = .ok (.bipush 15, 2) := by decide +kernel
theorem dX0_eat_65 : decode cX0_eat 65 = .ok (.iload 6, 2) := by decide +kernel
theorem dX0_eat_67 : decode cX0_eat 67 = .ok (.iadd, 1) := by decide +kernel
theorem dX0_eat_68 : decode cX0_eat 68 = .ok (.dup2, 1) := by decide +kernel
theorem dX0_eat_69 : decode cX0_eat 69 = .ok (.iaload, 1) := by decide +kernel
theorem dX0_eat_70 : decode cX0_eat 70 = .ok (.iload 7, 2) := by decide +kernel
theorem dX0_eat_72 : decode cX0_eat 72 = .ok (.isub, 1) := by decide +kernel
theorem dX0_eat_73 : decode cX0_eat 73 = .ok (.iastore, 1) := by decide +kernel
theorem dX0_eat_74 : decode cX0_eat 74 = .ok (.aload_n 1, 1) := by decide +kernel
theorem dX0_eat_75 : decode cX0_eat 75 = .ok (.getfield 15, 3) := by decide +kernel
theorem dX0_eat_78 : decode cX0_eat 78 = .ok (.bipush 23, 2) := by decide +kernel
theorem dX0_eat_80 : decode cX0_eat 80 = .ok (.iload 6, 2) := by decide +kernel
theorem dX0_eat_82 : decode cX0_eat 82 = .ok (.iadd, 1) := by decide +kernel
theorem dX0_eat_83 : decode cX0_eat 83 = .ok (.dup2, 1) := by decide +kernel
theorem dX0_eat_84 : decode cX0_eat 84 = .ok (.iaload, 1) := by decide +kernel
theorem dX0_eat_85 : decode cX0_eat 85 = .ok (.iconst 1, 1) := by decide +kernel
theorem dX0_eat_86 : decode cX0_eat 86 = .ok (.iadd, 1) := by decide +kernel
theorem dX0_eat_87 : decode cX0_eat 87 = .ok (.iastore, 1) := by decide +kernel
theorem dX0_eat_88 : decode cX0_eat 88 = .ok (.aload_n 1, 1) := by decide +kernel
theorem dX0_eat_89 : decode cX0_eat 89 = .ok (.getfield 15, 3) := by decide +kernel
theorem dX0_eat_92 : decode cX0_eat 92 = .ok (.bipush 31, 2) := by decide +kernel
theorem dX0_eat_94 : decode cX0_eat 94 = .ok (.iload_n 2, 1) := by decide +kernel
theorem dX0_eat_95 : decode cX0_eat 95 = .ok (.iadd, 1) := by decide +kernel
theorem dX0_eat_96 : decode cX0_eat 96 = .ok (.dup2, 1) := by decide +kernel
theorem dX0_eat_97 : decode cX0_eat 97 = .ok (.iaload, 1) := by decide +kernel
theorem dX0_eat_98 : decode cX0_eat 98 = .ok (.iload 7, 2) := by decide +kernel
theorem dX0_eat_100 : decode cX0_eat 100 = .ok (.iadd, 1) := by decide +kernel
theorem dX0_eat_101 : decode cX0_eat 101 = .ok (.iastore, 1) := by decide +kernel
theorem dX0_eat_102 : decode cX0_eat 102 = .ok (.iload 4, 2) := by decide +kernel
theorem dX0_eat_104 : decode cX0_eat 104 = .ok (.iload 7, 2) := by decide +kernel
theorem dX0_eat_106 : decode cX0_eat 106 = .ok (.isub, 1) := by decide +kernel
theorem dX0_eat_107 : decode cX0_eat 107 = .ok (.istore 4, 2) := by decide +kernel
theorem dX0_eat_109 : decode cX0_eat 109 = .ok (.iinc 5 1, 3) := by decide +kernel
theorem dX0_eat_112 : decode cX0_eat 112 = .ok (.goto (-99), 3) := by decide +kernel
theorem dX0_eat_115 : decode cX0_eat 115 = .ok (.iload 4, 2) := by decide +kernel
theorem dX0_eat_117 : decode cX0_eat 117 = .ok (.ifCond .ge 12, 3) := by decide +kernel
theorem dX0_eat_120 : decode cX0_eat 120 = .ok (.aload_n 0, 1) := by decide +kernel
theorem dX0_eat_121 : decode cX0_eat 121 = .ok (.aload_n 1, 1) := by decide +kernel
theorem dX0_eat_122 : decode cX0_eat 122 = .ok (.iload_n 2, 1) := by decide +kernel
theorem dX0_eat_123 : decode cX0_eat 123 = .ok (.invokevirtual 93, 3) := by decide +kernel
theorem dX0_eat_126 : decode cX0_eat 126 = .ok (.goto 4, 3) := by decide +kernel
theorem dX0_eat_129 : decode cX0_eat 129 = .ok (.iconst (-1), 1) := by decide +kernel
theorem dX0_eat_130 : decode cX0_eat 130 = .ok (.istore 5, 2) := by decide +kernel
theorem dX0_eat_132 : decode cX0_eat 132 = .ok (.iload 5, 2) := by decide +kernel
theorem dX0_eat_134 : decode cX0_eat 134 = .ok (.iconst (-1), 1) := by decide +kernel
theorem dX0_eat_135 : decode cX0_eat 135 = .ok (.if_icmp .eq 35, 3) := by decide +kernel
theorem dX0_eat_138 : decode cX0_eat 138 = .ok (.aload_n 1, 1) := by decide +kernel
theorem dX0_eat_139 : decode cX0_eat 139 = .ok (.getfield 15, 3) := by decide +kernel
theorem dX0_eat_142 : decode cX0_eat 142 = .ok (.bipush 15, 2) := by decide +kernel
theorem dX0_eat_144 : decode cX0_eat 144 = .ok (.iload 5, 2) := by decide +kernel
theorem dX0_eat_146 : decode cX0_eat 146 = .ok (.iadd, 1) := by decide +kernel
theorem dX0_eat_147 : decode cX0_eat 147 = .ok (.iaload, 1) := by decide +kernel
theorem dX0_eat_148 : decode cX0_eat 148 = .ok (.iload 4, 2) := by decide +kernel
theorem dX0_eat_150 : decode cX0_eat 150 = .ok (.isub, 1) := by decide +kernel
theorem dX0_eat_151 : decode cX0_eat 151 = .ok (.istore 6, 2) := by decide +kernel
theorem dX0_eat_153 : decode cX0_eat 153 = .ok (.aload_n 1, 1) := by decide +kernel
theorem dX0_eat_154 : decode cX0_eat 154 = .ok (.getfield 15, 3) := by decide +kernel
theorem dX0_eat_157 : decode cX0_eat 157 = .ok (.bipush 15, 2) := by decide +kernel
theorem dX0_eat_159 : decode cX0_eat 159 = .ok (.iload 5, 2) := by decide +kernel
theorem dX0_eat_161 : decode cX0_eat 161 = .ok (.iadd, 1) := by decide +kernel
theorem dX0_eat_162 : decode cX0_eat 162 = .ok (.bipush 60, 2) := by decide +kernel
theorem dX0_eat_164 : decode cX0_eat 164 = .ok (.iload 6, 2) := by decide +kernel
theorem dX0_eat_166 : decode cX0_eat 166 = .ok (.invokestatic 43, 3) := by decide +kernel
theorem dX0_eat_169 : decode cX0_eat 169 = .ok (.iastore, 1) := by decide +kernel
theorem dX0_eat_170 : decode cX0_eat 170 = .ok (.return_, 1) := by decide +kernel
theorem dX0_tastiest_0 : decode cX0_tastiest 0 = .ok (.iconst (-1), 1) := by decide +kernel
theorem dX0_tastiest_1 : decode cX0_tastiest 1 = .ok (.istore_n 3, 1) := by decide +kernel
theorem dX0_tastiest_2 : decode cX0_tastiest 2 = .ok (.iconst 0, 1) := by decide +kernel
theorem dX0_tastiest_3 : decode cX0_tastiest 3 = .ok (.istore 4, 2) := by decide +kernel
theorem dX0_tastiest_5 : decode cX0_tastiest 5 = .ok (.iconst 0, 1) := by decide +kernel
theorem dX0_tastiest_6 : decode cX0_tastiest 6 = .ok (.istore 5, 2) := by decide +kernel
theorem dX0_tastiest_8 : decode cX0_tastiest 8 = .ok (.iload 5, 2) := by decide +kernel
theorem dX0_tastiest_10 : decode cX0_tastiest 10 = .ok (.aload_n 0, 1) := by decide +kernel
theorem dX0_tastiest_11 : decode cX0_tastiest 11 = .ok (.getfield 9, 3) := by decide +kernel
theorem dX0_tastiest_14 : decode cX0_tastiest 14 = .ok (.getfield 96, 3) := by decide +kernel
theorem dX0_tastiest_17 : decode cX0_tastiest 17 = .ok (.if_icmp .ge 71, 3) := by decide +kernel
theorem dX0_tastiest_20 : decode cX0_tastiest 20 = .ok (.aload_n 0, 1) := by decide +kernel
theorem dX0_tastiest_21 : decode cX0_tastiest 21 = .ok (.getfield 9, 3) := by decide +kernel
theorem dX0_tastiest_24 : decode cX0_tastiest 24 = .ok (.getfield 99, 3) := by decide +kernel
theorem dX0_tastiest_27 : decode cX0_tastiest 27 = .ok (.iload_n 2, 1) := by decide +kernel
theorem dX0_tastiest_28 : decode cX0_tastiest 28 = .ok (.iaload, 1) := by decide +kernel
theorem dX0_tastiest_29 : decode cX0_tastiest 29 = .ok (.iload 5, 2) := by decide +kernel
theorem dX0_tastiest_31 : decode cX0_tastiest 31 = .ok (.ishr, 1) := by decide +kernel
theorem dX0_tastiest_32 : decode cX0_tastiest 32 = .ok (.iconst 1, 1) := by decide +kernel
theorem dX0_tastiest_33 : decode cX0_tastiest 33 = .ok (.iand, 1) := by decide +kernel
theorem dX0_tastiest_34 : decode cX0_tastiest 34 = .ok (.ifCond .eq 48, 3) := by decide +kernel
theorem dX0_tastiest_37 : decode cX0_tastiest 37 = .ok (.aload_n 1, 1) := by decide +kernel
theorem dX0_tastiest_38 : decode cX0_tastiest 38 = .ok (.getfield 15, 3) := by decide +kernel
theorem dX0_tastiest_41 : decode cX0_tastiest 41 = .ok (.bipush 15, 2) := by decide +kernel
theorem dX0_tastiest_43 : decode cX0_tastiest 43 = .ok (.iload 5, 2) := by decide +kernel
theorem dX0_tastiest_45 : decode cX0_tastiest 45 = .ok (.iadd, 1) := by decide +kernel
theorem dX0_tastiest_46 : decode cX0_tastiest 46 = .ok (.iaload, 1) := by decide +kernel
theorem dX0_tastiest_47 : decode cX0_tastiest 47 = .ok (.ifCond .gt 6, 3) := by decide +kernel
theorem dX0_tastiest_50 : decode cX0_tastiest 50 = .ok (.goto 32, 3) := by decide +kernel
theorem dX0_tastiest_53 : decode cX0_tastiest 53 = .ok (.aload_n 0, 1) := by decide +kernel
theorem dX0_tastiest_54 : decode cX0_tastiest 54 = .ok (.aload_n 1, 1) := by decide +kernel
theorem dX0_tastiest_55 : decode cX0_tastiest 55 = .ok (.iload 5, 2) := by decide +kernel
theorem dX0_tastiest_57 : decode cX0_tastiest 57 = .ok (.iload_n 2, 1) := by decide +kernel
theorem dX0_tastiest_58 : decode cX0_tastiest 58 = .ok (.invokevirtual 102, 3) := by decide +kernel
theorem dX0_tastiest_61 : decode cX0_tastiest 61 = .ok (.istore 6, 2) := by decide +kernel
theorem dX0_tastiest_63 : decode cX0_tastiest 63 = .ok (.iload_n 3, 1) := by decide +kernel
theorem dX0_tastiest_64 : decode cX0_tastiest 64 = .ok (.iconst (-1), 1) := by decide +kernel
theorem dX0_tastiest_65 : decode cX0_tastiest 65 = .ok (.if_icmp .eq 10, 3) := by decide +kernel
theorem dX0_tastiest_68 : decode cX0_tastiest 68 = .ok (.iload 6, 2) := by decide +kernel
theorem dX0_tastiest_70 : decode cX0_tastiest 70 = .ok (.iload 4, 2) := by decide +kernel
theorem dX0_tastiest_72 : decode cX0_tastiest 72 = .ok (.if_icmp .le 10, 3) := by decide +kernel
theorem dX0_tastiest_75 : decode cX0_tastiest 75 = .ok (.iload 5, 2) := by decide +kernel
theorem dX0_tastiest_77 : decode cX0_tastiest 77 = .ok (.istore_n 3, 1) := by decide +kernel
theorem dX0_tastiest_78 : decode cX0_tastiest 78 = .ok (.iload 6, 2) := by decide +kernel
theorem dX0_tastiest_80 : decode cX0_tastiest 80 = .ok (.istore 4, 2) := by decide +kernel
theorem dX0_tastiest_82 : decode cX0_tastiest 82 = .ok (.iinc 5 1, 3) := by decide +kernel
theorem dX0_tastiest_85 : decode cX0_tastiest 85 = .ok (.goto (-77), 3) := by decide +kernel
theorem dX0_tastiest_88 : decode cX0_tastiest 88 = .ok (.iload_n 3, 1) := by decide +kernel
theorem dX0_tastiest_89 : decode cX0_tastiest 89 = .ok (.ireturn, 1) := by decide +kernel
theorem dX0_smallestOn_0 : decode cX0_smallestOn 0 = .ok (.iconst (-1), 1) := by decide +kernel
theorem dX0_smallestOn_1 : decode cX0_smallestOn 1 = .ok (.istore_n 3, 1) := by decide +kernel
theorem dX0_smallestOn_2 : decode cX0_smallestOn 2 = .ok (.iconst 0, 1) := by decide +kernel
theorem dX0_smallestOn_3 : decode cX0_smallestOn 3 = .ok (.istore 4, 2) := by decide +kernel
theorem dX0_smallestOn_5 : decode cX0_smallestOn 5 = .ok (.iload 4, 2) := by decide +kernel
theorem dX0_smallestOn_7 : decode cX0_smallestOn 7 = .ok (.aload_n 0, 1) := by decide +kernel
theorem dX0_smallestOn_8 : decode cX0_smallestOn 8 = .ok (.getfield 9, 3) := by decide +kernel
theorem dX0_smallestOn_11 : decode cX0_smallestOn 11 = .ok (.getfield 96, 3) := by decide +kernel
theorem dX0_smallestOn_14 : decode cX0_smallestOn 14 = .ok (.if_icmp .ge 68, 3) := by decide +kernel
theorem dX0_smallestOn_17 : decode cX0_smallestOn 17 = .ok (.aload_n 0, 1) := by decide +kernel
theorem dX0_smallestOn_18 : decode cX0_smallestOn 18 = .ok (.getfield 9, 3) := by decide +kernel
theorem dX0_smallestOn_21 : decode cX0_smallestOn 21 = .ok (.getfield 99, 3) := by decide +kernel
theorem dX0_smallestOn_24 : decode cX0_smallestOn 24 = .ok (.iload_n 2, 1) := by decide +kernel
theorem dX0_smallestOn_25 : decode cX0_smallestOn 25 = .ok (.iaload, 1) := by decide +kernel
theorem dX0_smallestOn_26 : decode cX0_smallestOn 26 = .ok (.iload 4, 2) := by decide +kernel
theorem dX0_smallestOn_28 : decode cX0_smallestOn 28 = .ok (.ishr, 1) := by decide +kernel
theorem dX0_smallestOn_29 : decode cX0_smallestOn 29 = .ok (.iconst 1, 1) := by decide +kernel
theorem dX0_smallestOn_30 : decode cX0_smallestOn 30 = .ok (.iand, 1) := by decide +kernel
theorem dX0_smallestOn_31 : decode cX0_smallestOn 31 = .ok (.ifCond .eq 7, 3) := by decide +kernel
theorem dX0_smallestOn_34 : decode cX0_smallestOn 34 = .ok (.iconst 1, 1) := by decide +kernel
theorem dX0_smallestOn_35 : decode cX0_smallestOn 35 = .ok (.goto 4, 3) := by decide +kernel
theorem dX0_smallestOn_38 : decode cX0_smallestOn 38 = .ok (.iconst 0, 1) := by decide +kernel
theorem dX0_smallestOn_39 : decode cX0_smallestOn 39 = .ok (.istore 5, 2) := by decide +kernel
theorem dX0_smallestOn_41 : decode cX0_smallestOn 41 = .ok (.iload 5, 2) := by decide +kernel
theorem dX0_smallestOn_43 : decode cX0_smallestOn 43 = .ok (.ifCond .eq 33, 3) := by decide +kernel
theorem dX0_smallestOn_46 : decode cX0_smallestOn 46 = .ok (.iload_n 3, 1) := by decide +kernel
theorem dX0_smallestOn_47 : decode cX0_smallestOn 47 = .ok (.iconst (-1), 1) := by decide +kernel
theorem dX0_smallestOn_48 : decode cX0_smallestOn 48 = .ok (.if_icmp .eq 25, 3) := by decide +kernel
theorem dX0_smallestOn_51 : decode cX0_smallestOn 51 = .ok (.aload_n 1, 1) := by decide +kernel
theorem dX0_smallestOn_52 : decode cX0_smallestOn 52 = .ok (.getfield 15, 3) := by decide +kernel
theorem dX0_smallestOn_55 : decode cX0_smallestOn 55 = .ok (.bipush 15, 2) := by decide +kernel
theorem dX0_smallestOn_57 : decode cX0_smallestOn 57 = .ok (.iload 4, 2) := by decide +kernel
theorem dX0_smallestOn_59 : decode cX0_smallestOn 59 = .ok (.iadd, 1) := by decide +kernel
theorem dX0_smallestOn_60 : decode cX0_smallestOn 60 = .ok (.iaload, 1) := by decide +kernel
theorem dX0_smallestOn_61 : decode cX0_smallestOn 61 = .ok (.aload_n 1, 1) := by decide +kernel
theorem dX0_smallestOn_62 : decode cX0_smallestOn 62 = .ok (.getfield 15, 3) := by decide +kernel
theorem dX0_smallestOn_65 : decode cX0_smallestOn 65 = .ok (.bipush 15, 2) := by decide +kernel
theorem dX0_smallestOn_67 : decode cX0_smallestOn 67 = .ok (.iload_n 3, 1) := by decide +kernel
theorem dX0_smallestOn_68 : decode cX0_smallestOn 68 = .ok (.iadd, 1) := by decide +kernel
theorem dX0_smallestOn_69 : decode cX0_smallestOn 69 = .ok (.iaload, 1) := by decide +kernel
theorem dX0_smallestOn_70 : decode cX0_smallestOn 70 = .ok (.if_icmp .ge 6, 3) := by decide +kernel
theorem dX0_smallestOn_73 : decode cX0_smallestOn 73 = .ok (.iload 4, 2) := by decide +kernel
theorem dX0_smallestOn_75 : decode cX0_smallestOn 75 = .ok (.istore_n 3, 1) := by decide +kernel
theorem dX0_smallestOn_76 : decode cX0_smallestOn 76 = .ok (.iinc 4 1, 3) := by decide +kernel
theorem dX0_smallestOn_79 : decode cX0_smallestOn 79 = .ok (.goto (-74), 3) := by decide +kernel
theorem dX0_smallestOn_82 : decode cX0_smallestOn 82 = .ok (.iload_n 3, 1) := by decide +kernel
theorem dX0_smallestOn_83 : decode cX0_smallestOn 83 = .ok (.ireturn, 1) := by decide +kernel
theorem dX0_turnYear_0 : decode cX0_turnYear 0 = .ok (.aload_n 1, 1) := by decide +kernel
theorem dX0_turnYear_1 : decode cX0_turnYear 1 = .ok (.getfield 15, 3) := by decide +kernel
theorem dX0_turnYear_4 : decode cX0_turnYear 4 = .ok (.astore_n 2, 1) := by decide +kernel
theorem dX0_turnYear_5 : decode cX0_turnYear 5 = .ok (.aload_n 2, 1) := by decide +kernel
theorem dX0_turnYear_6 : decode cX0_turnYear 6 = .ok (.iconst 3, 1) := by decide +kernel
theorem dX0_turnYear_7 : decode cX0_turnYear 7 = .ok (.bipush 15, 2) := by decide +kernel
theorem dX0_turnYear_9 : decode cX0_turnYear 9 = .ok (.iconst 0, 1) := by decide +kernel
theorem dX0_turnYear_10 : decode cX0_turnYear 10 = .ok (.invokestatic 106, 3) := by decide +kernel
theorem dX0_turnYear_13 : decode cX0_turnYear 13 = .ok (.aload_n 2, 1) := by decide +kernel
theorem dX0_turnYear_14 : decode cX0_turnYear 14 = .ok (.bipush 42, 2) := by decide +kernel
theorem dX0_turnYear_16 : decode cX0_turnYear 16 = .ok (.aload_n 2, 1) := by decide +kernel
theorem dX0_turnYear_17 : decode cX0_turnYear 17 = .ok (.bipush 42, 2) := by decide +kernel
theorem dX0_turnYear_19 : decode cX0_turnYear 19 = .ok (.iaload, 1) := by decide +kernel
theorem dX0_turnYear_20 : decode cX0_turnYear 20 = .ok (.sipush 137, 3) := by decide +kernel
theorem dX0_turnYear_23 : decode cX0_turnYear 23 = .ok (.imul, 1) := by decide +kernel
theorem dX0_turnYear_24 : decode cX0_turnYear 24 = .ok (.bipush 71, 2) := by decide +kernel
theorem dX0_turnYear_26 : decode cX0_turnYear 26 = .ok (.iadd, 1) := by decide +kernel
theorem dX0_turnYear_27 : decode cX0_turnYear 27 = .ok (.sipush 1000, 3) := by decide +kernel
theorem dX0_turnYear_30 : decode cX0_turnYear 30 = .ok (.irem, 1) := by decide +kernel
theorem dX0_turnYear_31 : decode cX0_turnYear 31 = .ok (.iastore, 1) := by decide +kernel
theorem dX0_turnYear_32 : decode cX0_turnYear 32 = .ok (.aload_n 2, 1) := by decide +kernel
theorem dX0_turnYear_33 : decode cX0_turnYear 33 = .ok (.bipush 41, 2) := by decide +kernel
theorem dX0_turnYear_35 : decode cX0_turnYear 35 = .ok (.aload_n 2, 1) := by decide +kernel
theorem dX0_turnYear_36 : decode cX0_turnYear 36 = .ok (.bipush 42, 2) := by decide +kernel
theorem dX0_turnYear_38 : decode cX0_turnYear 38 = .ok (.iaload, 1) := by decide +kernel
theorem dX0_turnYear_39 : decode cX0_turnYear 39 = .ok (.bipush 10, 2) := by decide +kernel
theorem dX0_turnYear_41 : decode cX0_turnYear 41 = .ok (.idiv, 1) := by decide +kernel
theorem dX0_turnYear_42 : decode cX0_turnYear 42 = .ok (.iconst 2, 1) := by decide +kernel
theorem dX0_turnYear_43 : decode cX0_turnYear 43 = .ok (.irem, 1) := by decide +kernel
theorem dX0_turnYear_44 : decode cX0_turnYear 44 = .ok (.iastore, 1) := by decide +kernel
theorem dX0_turnYear_45 : decode cX0_turnYear 45 = .ok (.aload_n 2, 1) := by decide +kernel
theorem dX0_turnYear_46 : decode cX0_turnYear 46 = .ok (.bipush 40, 2) := by decide +kernel
theorem dX0_turnYear_48 : decode cX0_turnYear 48 = .ok (.dup2, 1) := by decide +kernel
theorem dX0_turnYear_49 : decode cX0_turnYear 49 = .ok (.iaload, 1) := by decide +kernel
theorem dX0_turnYear_50 : decode cX0_turnYear 50 = .ok (.iconst 1, 1) := by decide +kernel
theorem dX0_turnYear_51 : decode cX0_turnYear 51 = .ok (.iadd, 1) := by decide +kernel
theorem dX0_turnYear_52 : decode cX0_turnYear 52 = .ok (.iastore, 1) := by decide +kernel
theorem dX0_turnYear_53 : decode cX0_turnYear 53 = .ok (.return_, 1) := by decide +kernel
theorem dX0_smaller_0 : decode cX0_smaller 0 = .ok (.iconst 0, 1) := by decide +kernel
theorem dX0_smaller_1 : decode cX0_smaller 1 = .ok (.istore_n 3, 1) := by decide +kernel
theorem dX0_smaller_2 : decode cX0_smaller 2 = .ok (.iconst 0, 1) := by decide +kernel
theorem dX0_smaller_3 : decode cX0_smaller 3 = .ok (.istore 4, 2) := by decide +kernel
theorem dX0_smaller_5 : decode cX0_smaller 5 = .ok (.iload 4, 2) := by decide +kernel
theorem dX0_smaller_7 : decode cX0_smaller 7 = .ok (.aload_n 0, 1) := by decide +kernel
theorem dX0_smaller_8 : decode cX0_smaller 8 = .ok (.getfield 9, 3) := by decide +kernel
theorem dX0_smaller_11 : decode cX0_smaller 11 = .ok (.getfield 96, 3) := by decide +kernel
theorem dX0_smaller_14 : decode cX0_smaller 14 = .ok (.if_icmp .ge 39, 3) := by decide +kernel
theorem dX0_smaller_17 : decode cX0_smaller 17 = .ok (.aload_n 2, 1) := by decide +kernel
theorem dX0_smaller_18 : decode cX0_smaller 18 = .ok (.getfield 15, 3) := by decide +kernel
theorem dX0_smaller_21 : decode cX0_smaller 21 = .ok (.bipush 15, 2) := by decide +kernel
theorem dX0_smaller_23 : decode cX0_smaller 23 = .ok (.iload 4, 2) := by decide +kernel
theorem dX0_smaller_25 : decode cX0_smaller 25 = .ok (.iadd, 1) := by decide +kernel
theorem dX0_smaller_26 : decode cX0_smaller 26 = .ok (.iaload, 1) := by decide +kernel
theorem dX0_smaller_27 : decode cX0_smaller 27 = .ok (.aload_n 1, 1) := by decide +kernel
theorem dX0_smaller_28 : decode cX0_smaller 28 = .ok (.getfield 15, 3) := by decide +kernel
theorem dX0_smaller_31 : decode cX0_smaller 31 = .ok (.bipush 15, 2) := by decide +kernel
theorem dX0_smaller_33 : decode cX0_smaller 33 = .ok (.iload 4, 2) := by decide +kernel
theorem dX0_smaller_35 : decode cX0_smaller 35 = .ok (.iadd, 1) := by decide +kernel
theorem dX0_smaller_36 : decode cX0_smaller 36 = .ok (.iaload, 1) := by decide +kernel
theorem dX0_smaller_37 : decode cX0_smaller 37 = .ok (.if_icmp .ge 10, 3) := by decide +kernel
theorem dX0_smaller_40 : decode cX0_smaller 40 = .ok (.iload_n 3, 1) := by decide +kernel
theorem dX0_smaller_41 : decode cX0_smaller 41 = .ok (.iconst 1, 1) := by decide +kernel
theorem dX0_smaller_42 : decode cX0_smaller 42 = .ok (.iload 4, 2) := by decide +kernel
theorem dX0_smaller_44 : decode cX0_smaller 44 = .ok (.ishl, 1) := by decide +kernel
theorem dX0_smaller_45 : decode cX0_smaller 45 = .ok (.ior, 1) := by decide +kernel
theorem dX0_smaller_46 : decode cX0_smaller 46 = .ok (.istore_n 3, 1) := by decide +kernel
theorem dX0_smaller_47 : decode cX0_smaller 47 = .ok (.iinc 4 1, 3) := by decide +kernel
theorem dX0_smaller_50 : decode cX0_smaller 50 = .ok (.goto (-45), 3) := by decide +kernel
theorem dX0_smaller_53 : decode cX0_smaller 53 = .ok (.iload_n 3, 1) := by decide +kernel
theorem dX0_smaller_54 : decode cX0_smaller 54 = .ok (.ireturn, 1) := by decide +kernel
theorem dX0_goneIn_0 : decode cX0_goneIn 0 = .ok (.iconst 0, 1) := by decide +kernel
theorem dX0_goneIn_1 : decode cX0_goneIn 1 = .ok (.istore_n 2, 1) := by decide +kernel
theorem dX0_goneIn_2 : decode cX0_goneIn 2 = .ok (.iconst 0, 1) := by decide +kernel
theorem dX0_goneIn_3 : decode cX0_goneIn 3 = .ok (.istore_n 3, 1) := by decide +kernel
theorem dX0_goneIn_4 : decode cX0_goneIn 4 = .ok (.iload_n 3, 1) := by decide +kernel
theorem dX0_goneIn_5 : decode cX0_goneIn 5 = .ok (.aload_n 0, 1) := by decide +kernel
theorem dX0_goneIn_6 : decode cX0_goneIn 6 = .ok (.getfield 9, 3) := by decide +kernel
theorem dX0_goneIn_9 : decode cX0_goneIn 9 = .ok (.getfield 96, 3) := by decide +kernel
theorem dX0_goneIn_12 : decode cX0_goneIn 12 = .ok (.if_icmp .ge 27, 3) := by decide +kernel
theorem dX0_goneIn_15 : decode cX0_goneIn 15 = .ok (.aload_n 1, 1) := by decide +kernel
theorem dX0_goneIn_16 : decode cX0_goneIn 16 = .ok (.getfield 15, 3) := by decide +kernel
theorem dX0_goneIn_19 : decode cX0_goneIn 19 = .ok (.bipush 15, 2) := by decide +kernel
theorem dX0_goneIn_21 : decode cX0_goneIn 21 = .ok (.iload_n 3, 1) := by decide +kernel
theorem dX0_goneIn_22 : decode cX0_goneIn 22 = .ok (.iadd, 1) := by decide +kernel
theorem dX0_goneIn_23 : decode cX0_goneIn 23 = .ok (.iaload, 1) := by decide +kernel
theorem dX0_goneIn_24 : decode cX0_goneIn 24 = .ok (.ifCond .gt 9, 3) := by decide +kernel
theorem dX0_goneIn_27 : decode cX0_goneIn 27 = .ok (.iload_n 2, 1) := by decide +kernel
theorem dX0_goneIn_28 : decode cX0_goneIn 28 = .ok (.iconst 1, 1) := by decide +kernel
theorem dX0_goneIn_29 : decode cX0_goneIn 29 = .ok (.iload_n 3, 1) := by decide +kernel
theorem dX0_goneIn_30 : decode cX0_goneIn 30 = .ok (.ishl, 1) := by decide +kernel
theorem dX0_goneIn_31 : decode cX0_goneIn 31 = .ok (.ior, 1) := by decide +kernel
theorem dX0_goneIn_32 : decode cX0_goneIn 32 = .ok (.istore_n 2, 1) := by decide +kernel
theorem dX0_goneIn_33 : decode cX0_goneIn 33 = .ok (.iinc 3 1, 3) := by decide +kernel
theorem dX0_goneIn_36 : decode cX0_goneIn 36 = .ok (.goto (-32), 3) := by decide +kernel
theorem dX0_goneIn_39 : decode cX0_goneIn 39 = .ok (.iload_n 2, 1) := by decide +kernel
theorem dX0_goneIn_40 : decode cX0_goneIn 40 = .ok (.ireturn, 1) := by decide +kernel
theorem dX0_landIn_0 : decode cX0_landIn 0 = .ok (.iconst 0, 1) := by decide +kernel
theorem dX0_landIn_1 : decode cX0_landIn 1 = .ok (.istore_n 2, 1) := by decide +kernel
theorem dX0_landIn_2 : decode cX0_landIn 2 = .ok (.iconst 0, 1) := by decide +kernel
theorem dX0_landIn_3 : decode cX0_landIn 3 = .ok (.istore_n 3, 1) := by decide +kernel
theorem dX0_landIn_4 : decode cX0_landIn 4 = .ok (.iload_n 3, 1) := by decide +kernel
theorem dX0_landIn_5 : decode cX0_landIn 5 = .ok (.aload_n 0, 1) := by decide +kernel
theorem dX0_landIn_6 : decode cX0_landIn 6 = .ok (.getfield 9, 3) := by decide +kernel
theorem dX0_landIn_9 : decode cX0_landIn 9 = .ok (.getfield 96, 3) := by decide +kernel
theorem dX0_landIn_12 : decode cX0_landIn 12 = .ok (.if_icmp .ge 31, 3) := by decide +kernel
theorem dX0_landIn_15 : decode cX0_landIn 15 = .ok (.iload_n 2, 1) := by decide +kernel
theorem dX0_landIn_16 : decode cX0_landIn 16 = .ok (.aload_n 1, 1) := by decide +kernel
theorem dX0_landIn_17 : decode cX0_landIn 17 = .ok (.getfield 15, 3) := by decide +kernel
theorem dX0_landIn_20 : decode cX0_landIn 20 = .ok (.bipush 15, 2) := by decide +kernel
theorem dX0_landIn_22 : decode cX0_landIn 22 = .ok (.iload_n 3, 1) := by decide +kernel
theorem dX0_landIn_23 : decode cX0_landIn 23 = .ok (.iadd, 1) := by decide +kernel
theorem dX0_landIn_24 : decode cX0_landIn 24 = .ok (.iaload, 1) := by decide +kernel
theorem dX0_landIn_25 : decode cX0_landIn 25 = .ok (.aload_n 0, 1) := by decide +kernel
theorem dX0_landIn_26 : decode cX0_landIn 26 = .ok (.getfield 9, 3) := by decide +kernel
theorem dX0_landIn_29 : decode cX0_landIn 29 = .ok (.getfield 67, 3) := by decide +kernel
theorem dX0_landIn_32 : decode cX0_landIn 32 = .ok (.iload_n 3, 1) := by decide +kernel
theorem dX0_landIn_33 : decode cX0_landIn 33 = .ok (.iaload, 1) := by decide +kernel
theorem dX0_landIn_34 : decode cX0_landIn 34 = .ok (.imul, 1) := by decide +kernel
theorem dX0_landIn_35 : decode cX0_landIn 35 = .ok (.iadd, 1) := by decide +kernel
theorem dX0_landIn_36 : decode cX0_landIn 36 = .ok (.istore_n 2, 1) := by decide +kernel
theorem dX0_landIn_37 : decode cX0_landIn 37 = .ok (.iinc 3 1, 3) := by decide +kernel
theorem dX0_landIn_40 : decode cX0_landIn 40 = .ok (.goto (-36), 3) := by decide +kernel
theorem dX0_landIn_43 : decode cX0_landIn 43 = .ok (.iload_n 2, 1) := by decide +kernel
theorem dX0_landIn_44 : decode cX0_landIn 44 = .ok (.ireturn, 1) := by decide +kernel
theorem dX1_init_0 : decode cX1_init 0 = .ok (.aload_n 0, 1) := by decide +kernel
theorem dX1_init_1 : decode cX1_init 1 = .ok (.invokespecial 3, 3) := by decide +kernel
theorem dX1_init_4 : decode cX1_init 4 = .ok (.aload_n 0, 1) := by decide +kernel
theorem dX1_init_5 : decode cX1_init 5 = .ok (.bipush 8, 2) := by decide +kernel
theorem dX1_init_7 : decode cX1_init 7 = .ok (.anewarray 11, 3) := by decide +kernel
theorem dX1_init_10 : decode cX1_init 10 = .ok (.putfield 13, 3) := by decide +kernel
theorem dX1_init_13 : decode cX1_init 13 = .ok (.aload_n 0, 1) := by decide +kernel
theorem dX1_init_14 : decode cX1_init 14 = .ok (.iconst (-1), 1) := by decide +kernel
theorem dX1_init_15 : decode cX1_init 15 = .ok (.putfield 17, 3) := by decide +kernel
theorem dX1_init_18 : decode cX1_init 18 = .ok (.aload_n 0, 1) := by decide +kernel
theorem dX1_init_19 : decode cX1_init 19 = .ok (.aload_n 1, 1) := by decide +kernel
theorem dX1_init_20 : decode cX1_init 20 = .ok (.putfield 21, 3) := by decide +kernel
theorem dX1_init_23 : decode cX1_init 23 = .ok (.iconst 0, 1) := by decide +kernel
theorem dX1_init_24 : decode cX1_init 24 = .ok (.istore_n 2, 1) := by decide +kernel
theorem dX1_init_25 : decode cX1_init 25 = .ok (.iload_n 2, 1) := by decide +kernel
theorem dX1_init_26 : decode cX1_init 26 = .ok (.aload_n 0, 1) := by decide +kernel
theorem dX1_init_27 : decode cX1_init 27 = .ok (.getfield 13, 3) := by decide +kernel
theorem dX1_init_30 : decode cX1_init 30 = .ok (.arraylength, 1) := by decide +kernel
theorem dX1_init_31 : decode cX1_init 31 = .ok (.if_icmp .ge 22, 3) := by decide +kernel
theorem dX1_init_34 : decode cX1_init 34 = .ok (.aload_n 0, 1) := by decide +kernel
theorem dX1_init_35 : decode cX1_init 35 = .ok (.getfield 13, 3) := by decide +kernel
theorem dX1_init_38 : decode cX1_init 38 = .ok (.iload_n 2, 1) := by decide +kernel
theorem dX1_init_39 : decode cX1_init 39 = .ok (.new 11, 3) := by decide +kernel
theorem dX1_init_42 : decode cX1_init 42 = .ok (.dup, 1) := by decide +kernel
theorem dX1_init_43 : decode cX1_init 43 = .ok (.invokespecial 25, 3) := by decide +kernel
theorem dX1_init_46 : decode cX1_init 46 = .ok (.aastore, 1) := by decide +kernel
theorem dX1_init_47 : decode cX1_init 47 = .ok (.iinc 2 1, 3) := by decide +kernel
theorem dX1_init_50 : decode cX1_init 50 = .ok (.goto (-25), 3) := by decide +kernel
theorem dX1_init_53 : decode cX1_init 53 = .ok (.return_, 1) := by decide +kernel
theorem dX1_after_0 : decode cX1_after 0 = .ok (.aload_n 0, 1) := by decide +kernel
theorem dX1_after_1 : decode cX1_after 1 = .ok (.getfield 13, 3) := by decide +kernel
theorem dX1_after_4 : decode cX1_after 4 = .ok (.iconst 0, 1) := by decide +kernel
theorem dX1_after_5 : decode cX1_after 5 = .ok (.aaload, 1) := by decide +kernel
theorem dX1_after_6 : decode cX1_after 6 = .ok (.astore_n 3, 1) := by decide +kernel
theorem dX1_after_7 : decode cX1_after 7 = .ok (.aload_n 3, 1) := by decide +kernel
theorem dX1_after_8 : decode cX1_after 8 = .ok (.aload_n 1, 1) := by decide +kernel
theorem dX1_after_9 : decode cX1_after 9 = .ok (.invokevirtual 26, 3) := by decide +kernel
theorem dX1_after_12 : decode cX1_after 12 = .ok (.iconst 0, 1) := by decide +kernel
theorem dX1_after_13 : decode cX1_after 13 = .ok (.istore 4, 2) := by decide +kernel
theorem dX1_after_15 : decode cX1_after 15 = .ok (.iload 4, 2) := by decide +kernel
theorem dX1_after_17 : decode cX1_after 17 = .ok (.iload_n 2, 1) := by decide +kernel
theorem dX1_after_18 : decode cX1_after 18 = .ok (.if_icmp .ge 17, 3) := by decide +kernel
theorem dX1_after_21 : decode cX1_after 21 = .ok (.aload_n 0, 1) := by decide +kernel
theorem dX1_after_22 : decode cX1_after 22 = .ok (.getfield 21, 3) := by decide +kernel
theorem dX1_after_25 : decode cX1_after 25 = .ok (.aload_n 3, 1) := by decide +kernel
theorem dX1_after_26 : decode cX1_after 26 = .ok (.invokevirtual 30, 3) := by decide +kernel
theorem dX1_after_29 : decode cX1_after 29 = .ok (.iinc 4 1, 3) := by decide +kernel
theorem dX1_after_32 : decode cX1_after 32 = .ok (.goto (-17), 3) := by decide +kernel
theorem dX1_after_35 : decode cX1_after 35 = .ok (.aload_n 3, 1) := by decide +kernel
theorem dX1_after_36 : decode cX1_after 36 = .ok (.areturn, 1) := by decide +kernel
theorem dX1_firstBite_0 : decode cX1_firstBite 0 = .ok (.aload_n 0, 1) := by decide +kernel
theorem dX1_firstBite_1 : decode cX1_firstBite 1 = .ok (.aload_n 1, 1) := by decide +kernel
theorem dX1_firstBite_2 : decode cX1_firstBite 2 = .ok (.iconst 0, 1) := by decide +kernel
theorem dX1_firstBite_3 : decode cX1_firstBite 3 = .ok (.invokevirtual 35, 3) := by decide +kernel
theorem dX1_firstBite_6 : decode cX1_firstBite 6 = .ok (.astore_n 3, 1) := by decide +kernel
theorem dX1_firstBite_7 : decode cX1_firstBite 7 = .ok (.iconst 0, 1) := by decide +kernel
theorem dX1_firstBite_8 : decode cX1_firstBite 8 = .ok (.istore 4, 2) := by decide +kernel
theorem dX1_firstBite_10 : decode cX1_firstBite 10 = .ok (.iload 4, 2) := by decide +kernel
theorem dX1_firstBite_12 : decode cX1_firstBite 12 = .ok (.bipush 30, 2) := by decide +kernel
theorem dX1_firstBite_14 : decode cX1_firstBite 14 = .ok (.if_icmp .ge 41, 3) := by decide +kernel
theorem dX1_firstBite_17 : decode cX1_firstBite 17 = .ok (.aload_n 0, 1) := by decide +kernel
theorem dX1_firstBite_18 : decode cX1_firstBite 18 = .ok (.getfield 21, 3) := by decide +kernel
theorem dX1_firstBite_21 : decode cX1_firstBite 21 = .ok (.aload_n 3, 1) := by decide +kernel
theorem dX1_firstBite_22 : decode cX1_firstBite 22 = .ok (.invokevirtual 30, 3) := by decide +kernel
theorem dX1_firstBite_25 : decode cX1_firstBite 25 = .ok (.aload_n 3, 1) := by decide +kernel
theorem dX1_firstBite_26 : decode cX1_firstBite 26 = .ok (.getfield 39, 3) := by decide +kernel
theorem dX1_firstBite_29 : decode cX1_firstBite 29 = .ok (.bipush 31, 2) := by decide +kernel
theorem dX1_firstBite_31 : decode cX1_firstBite 31 = .ok (.iload_n 2, 1) := by decide +kernel
theorem dX1_firstBite_32 : decode cX1_firstBite 32 = .ok (.iadd, 1) := by decide +kernel
theorem dX1_firstBite_33 : decode cX1_firstBite 33 = .ok (.iaload, 1) := by decide +kernel
theorem dX1_firstBite_34 : decode cX1_firstBite 34 = .ok (.aload_n 1, 1) := by decide +kernel
theorem dX1_firstBite_35 : decode cX1_firstBite 35 = .ok (.getfield 39, 3) := by decide +kernel
theorem dX1_firstBite_38 : decode cX1_firstBite 38 = .ok (.bipush 31, 2) := by decide +kernel
theorem dX1_firstBite_40 : decode cX1_firstBite 40 = .ok (.iload_n 2, 1) := by decide +kernel
theorem dX1_firstBite_41 : decode cX1_firstBite 41 = .ok (.iadd, 1) := by decide +kernel
theorem dX1_firstBite_42 : decode cX1_firstBite 42 = .ok (.iaload, 1) := by decide +kernel
theorem dX1_firstBite_43 : decode cX1_firstBite 43 = .ok (.if_icmp .le 6, 3) := by decide +kernel
theorem dX1_firstBite_46 : decode cX1_firstBite 46 = .ok (.iload 4, 2) := by decide +kernel
theorem dX1_firstBite_48 : decode cX1_firstBite 48 = .ok (.ireturn, 1) := by decide +kernel
theorem dX1_firstBite_49 : decode cX1_firstBite 49 = .ok (.iinc 4 1, 3) := by decide +kernel
theorem dX1_firstBite_52 : decode cX1_firstBite 52 = .ok (.goto (-42), 3) := by decide +kernel
theorem dX1_firstBite_55 : decode cX1_firstBite 55 = .ok (.iconst (-1), 1) := by decide +kernel
theorem dX1_firstBite_56 : decode cX1_firstBite 56 = .ok (.ireturn, 1) := by decide +kernel
theorem dX1_yearsToLoss_0 : decode cX1_yearsToLoss 0 = .ok (.aload_n 0, 1) := by decide +kernel
theorem dX1_yearsToLoss_1 : decode cX1_yearsToLoss 1 = .ok (.getfield 21, 3) := by decide +kernel
theorem dX1_yearsToLoss_4 : decode cX1_yearsToLoss 4 = .ok (.aload_n 1, 1) := by decide +kernel
theorem dX1_yearsToLoss_5 : decode cX1_yearsToLoss 5 = .ok (.invokevirtual 43, 3) := by decide +kernel
theorem dX1_yearsToLoss_8 : decode cX1_yearsToLoss 8 = .ok (.iconst (-1), 1) := by decide +kernel
theorem dX1_yearsToLoss_9 : decode cX1_yearsToLoss 9 = .ok (.ixor, 1) := by decide +kernel
theorem dX1_yearsToLoss_10 : decode cX1_yearsToLoss 10 = .ok (.istore_n 2, 1) := by decide +kernel
theorem dX1_yearsToLoss_11 : decode cX1_yearsToLoss 11 = .ok (.aload_n 0, 1) := by decide +kernel
theorem dX1_yearsToLoss_12 : decode cX1_yearsToLoss 12 = .ok (.aload_n 1, 1) := by decide +kernel
theorem dX1_yearsToLoss_13 : decode cX1_yearsToLoss 13 = .ok (.iconst 0, 1) := by decide +kernel
theorem dX1_yearsToLoss_14 : decode cX1_yearsToLoss 14 = .ok (.invokevirtual 35, 3) := by decide +kernel
theorem dX1_yearsToLoss_17 : decode cX1_yearsToLoss 17 = .ok (.astore_n 3, 1) := by decide +kernel
theorem dX1_yearsToLoss_18 : decode cX1_yearsToLoss 18 = .ok (.aload_n 0, 1) := by decide +kernel
theorem dX1_yearsToLoss_19 : decode cX1_yearsToLoss 19 = .ok (.iconst (-1), 1) := by decide +kernel
theorem dX1_yearsToLoss_20 : decode cX1_yearsToLoss 20 = .ok (.putfield 17, 3) := by decide +kernel
theorem dX1_yearsToLoss_23 : decode cX1_yearsToLoss 23 = .ok (.iconst 1, 1) := by decide +kernel
theorem dX1_yearsToLoss_24 : decode cX1_yearsToLoss 24 = .ok (.istore 4, 2) := by decide +kernel
theorem dX1_yearsToLoss_26 : decode cX1_yearsToLoss 26 = .ok (.iload 4, 2) := by decide +kernel
theorem dX1_yearsToLoss_28 : decode cX1_yearsToLoss 28 = .ok (.bipush 30, 2) := by decide +kernel
theorem dX1_yearsToLoss_30 : decode cX1_yearsToLoss 30 = .ok (.if_icmp .gt 46, 3) := by decide +kernel
theorem dX1_yearsToLoss_33 : decode cX1_yearsToLoss 33 = .ok (.aload_n 0, 1) := by decide +kernel
theorem dX1_yearsToLoss_34 : decode cX1_yearsToLoss 34 = .ok (.getfield 21, 3) := by decide +kernel
theorem dX1_yearsToLoss_37 : decode cX1_yearsToLoss 37 = .ok (.aload_n 3, 1) := by decide +kernel
theorem dX1_yearsToLoss_38 : decode cX1_yearsToLoss 38 = .ok (.invokevirtual 30, 3) := by decide +kernel
theorem dX1_yearsToLoss_41 : decode cX1_yearsToLoss 41 = .ok (.aload_n 0, 1) := by decide +kernel
theorem dX1_yearsToLoss_42 : decode cX1_yearsToLoss 42 = .ok (.getfield 21, 3) := by decide +kernel
theorem dX1_yearsToLoss_45 : decode cX1_yearsToLoss 45 = .ok (.aload_n 3, 1) := by decide +kernel
theorem dX1_yearsToLoss_46 : decode cX1_yearsToLoss 46 = .ok (.invokevirtual 43, 3) := by decide +kernel
theorem dX1_yearsToLoss_49 : decode cX1_yearsToLoss 49 = .ok (.iload_n 2, 1) := by decide +kernel
theorem dX1_yearsToLoss_50 : decode cX1_yearsToLoss 50 = .ok (.iand, 1) := by decide +kernel
theorem dX1_yearsToLoss_51 : decode cX1_yearsToLoss 51 = .ok (.istore 5, 2) := by decide +kernel
theorem dX1_yearsToLoss_53 : decode cX1_yearsToLoss 53 = .ok (.iload 5, 2) := by decide +kernel
theorem dX1_yearsToLoss_55 : decode cX1_yearsToLoss 55 = .ok (.ifCond .eq 15, 3) := by decide +kernel
theorem dX1_yearsToLoss_58 : decode cX1_yearsToLoss 58 = .ok (.aload_n 0, 1) := by decide +kernel
theorem dX1_yearsToLoss_59 : decode cX1_yearsToLoss 59 = .ok (.iload 5, 2) := by decide +kernel
theorem dX1_yearsToLoss_61 : decode cX1_yearsToLoss 61 = .ok (.invokestatic 47, 3) := by decide +kernel
theorem dX1_yearsToLoss_64 : decode cX1_yearsToLoss 64 = .ok (.putfield 17, 3) := by decide +kernel
theorem dX1_yearsToLoss_67 : decode cX1_yearsToLoss 67 = .ok (.iload 4, 2) := by decide +kernel
theorem dX1_yearsToLoss_69 : decode cX1_yearsToLoss 69 = .ok (.ireturn, 1) := by decide +kernel
theorem dX1_yearsToLoss_70 : decode cX1_yearsToLoss 70 = .ok (.iinc 4 1, 3) := by decide +kernel
theorem dX1_yearsToLoss_73 : decode cX1_yearsToLoss 73 = .ok (.goto (-47), 3) := by decide +kernel
theorem dX1_yearsToLoss_76 : decode cX1_yearsToLoss 76 = .ok (.iconst (-1), 1) := by decide +kernel
theorem dX1_yearsToLoss_77 : decode cX1_yearsToLoss 77 = .ok (.ireturn, 1) := by decide +kernel
theorem dX1_mapsToFold_0 : decode cX1_mapsToFold 0 = .ok (.aload_n 0, 1) := by decide +kernel
theorem dX1_mapsToFold_1 : decode cX1_mapsToFold 1 = .ok (.getfield 21, 3) := by decide +kernel
theorem dX1_mapsToFold_4 : decode cX1_mapsToFold 4 = .ok (.aload_n 1, 1) := by decide +kernel
theorem dX1_mapsToFold_5 : decode cX1_mapsToFold 5 = .ok (.invokevirtual 43, 3) := by decide +kernel
theorem dX1_mapsToFold_8 : decode cX1_mapsToFold 8 = .ok (.iconst (-1), 1) := by decide +kernel
theorem dX1_mapsToFold_9 : decode cX1_mapsToFold 9 = .ok (.ixor, 1) := by decide +kernel
theorem dX1_mapsToFold_10 : decode cX1_mapsToFold 10 = .ok (.istore_n 3, 1) := by decide +kernel
theorem dX1_mapsToFold_11 : decode cX1_mapsToFold 11 = .ok (.aload_n 1, 1) := by decide +kernel
theorem dX1_mapsToFold_12 : decode cX1_mapsToFold 12 = .ok (.getfield 39, 3) := by decide +kernel
theorem dX1_mapsToFold_15 : decode cX1_mapsToFold 15 = .ok (.bipush 39, 2) := by decide +kernel
theorem dX1_mapsToFold_17 : decode cX1_mapsToFold 17 = .ok (.iaload, 1) := by decide +kernel
theorem dX1_mapsToFold_18 : decode cX1_mapsToFold 18 = .ok (.istore 4, 2) := by decide +kernel
theorem dX1_mapsToFold_20 : decode cX1_mapsToFold 20 = .ok (.iconst 1, 1) := by decide +kernel
theorem dX1_mapsToFold_21 : decode cX1_mapsToFold 21 = .ok (.aload_n 0, 1) := by decide +kernel
theorem dX1_mapsToFold_22 : decode cX1_mapsToFold 22 = .ok (.getfield 21, 3) := by decide +kernel
theorem dX1_mapsToFold_25 : decode cX1_mapsToFold 25 = .ok (.getfield 53, 3) := by decide +kernel
theorem dX1_mapsToFold_28 : decode cX1_mapsToFold 28 = .ok (.getfield 57, 3) := by decide +kernel
theorem dX1_mapsToFold_31 : decode cX1_mapsToFold 31 = .ok (.ishl, 1) := by decide +kernel
theorem dX1_mapsToFold_32 : decode cX1_mapsToFold 32 = .ok (.istore 5, 2) := by decide +kernel
theorem dX1_mapsToFold_34 : decode cX1_mapsToFold 34 = .ok (.aload_n 0, 1) := by decide +kernel
theorem dX1_mapsToFold_35 : decode cX1_mapsToFold 35 = .ok (.getfield 13, 3) := by decide +kernel
theorem dX1_mapsToFold_38 : decode cX1_mapsToFold 38 = .ok (.iconst 1, 1) := by decide +kernel
theorem dX1_mapsToFold_39 : decode cX1_mapsToFold 39 = .ok (.aaload, 1) := by decide +kernel
theorem dX1_mapsToFold_40 : decode cX1_mapsToFold 40 = .ok (.astore 6, 2) := by decide +kernel
theorem dX1_mapsToFold_42 : decode cX1_mapsToFold 42 = .ok (.iconst 0, 1) := by decide +kernel
theorem dX1_mapsToFold_43 : decode cX1_mapsToFold 43 = .ok (.istore 7, 2) := by decide +kernel
theorem dX1_mapsToFold_45 : decode cX1_mapsToFold 45 = .ok (.iload 7, 2) := by decide +kernel
theorem dX1_mapsToFold_47 : decode cX1_mapsToFold 47 = .ok (.iconst 4, 1) := by decide +kernel
theorem dX1_mapsToFold_48 : decode cX1_mapsToFold 48 = .ok (.if_icmp .gt 87, 3) := by decide +kernel
theorem dX1_mapsToFold_51 : decode cX1_mapsToFold 51 = .ok (.iconst 0, 1) := by decide +kernel
theorem dX1_mapsToFold_52 : decode cX1_mapsToFold 52 = .ok (.istore 8, 2) := by decide +kernel
theorem dX1_mapsToFold_54 : decode cX1_mapsToFold 54 = .ok (.iload 8, 2) := by decide +kernel
theorem dX1_mapsToFold_56 : decode cX1_mapsToFold 56 = .ok (.iload 5, 2) := by decide +kernel
theorem dX1_mapsToFold_58 : decode cX1_mapsToFold 58 = .ok (.if_icmp .ge 71, 3) := by decide +kernel
theorem dX1_mapsToFold_61 : decode cX1_mapsToFold 61 = .ok (.iload 8, 2) := by decide +kernel
theorem dX1_mapsToFold_63 : decode cX1_mapsToFold 63 = .ok (.iload 4, 2) := by decide +kernel
theorem dX1_mapsToFold_65 : decode cX1_mapsToFold 65 = .ok (.iand, 1) := by decide +kernel
theorem dX1_mapsToFold_66 : decode cX1_mapsToFold 66 = .ok (.ifCond .ne 57, 3) := by decide +kernel
theorem dX1_mapsToFold_69 : decode cX1_mapsToFold 69 = .ok (.iload 8, 2) := by decide +kernel
theorem dX1_mapsToFold_71 : decode cX1_mapsToFold 71 = .ok (.invokestatic 62, 3) := by decide +kernel
theorem dX1_mapsToFold_74 : decode cX1_mapsToFold 74 = .ok (.iload 7, 2) := by decide +kernel
theorem dX1_mapsToFold_76 : decode cX1_mapsToFold 76 = .ok (.if_icmp .eq 6, 3) := by decide +kernel
theorem dX1_mapsToFold_79 : decode cX1_mapsToFold 79 = .ok (.goto 44, 3) := by decide +kernel
theorem dX1_mapsToFold_82 : decode cX1_mapsToFold 82 = .ok (.aload 6, 2) := by decide +kernel
theorem dX1_mapsToFold_84 : decode cX1_mapsToFold 84 = .ok (.aload_n 1, 1) := by decide +kernel
theorem dX1_mapsToFold_85 : decode cX1_mapsToFold 85 = .ok (.invokevirtual 26, 3) := by decide +kernel
theorem dX1_mapsToFold_88 : decode cX1_mapsToFold 88 = .ok (.aload 6, 2) := by decide +kernel
theorem dX1_mapsToFold_90 : decode cX1_mapsToFold 90 = .ok (.getfield 39, 3) := by decide +kernel
theorem dX1_mapsToFold_93 : decode cX1_mapsToFold 93 = .ok (.bipush 39, 2) := by decide +kernel
theorem dX1_mapsToFold_95 : decode cX1_mapsToFold 95 = .ok (.dup2, 1) := by decide +kernel
theorem dX1_mapsToFold_96 : decode cX1_mapsToFold 96 = .ok (.iaload, 1) := by decide +kernel
theorem dX1_mapsToFold_97 : decode cX1_mapsToFold 97 = .ok (.iload 8, 2) := by decide +kernel
theorem dX1_mapsToFold_99 : decode cX1_mapsToFold 99 = .ok (.ior, 1) := by decide +kernel
theorem dX1_mapsToFold_100 : decode cX1_mapsToFold 100 = .ok (.iastore, 1) := by decide +kernel
theorem dX1_mapsToFold_101 : decode cX1_mapsToFold 101 = .ok (.aload_n 0, 1) := by decide +kernel
theorem dX1_mapsToFold_102 : decode cX1_mapsToFold 102 = .ok (.getfield 21, 3) := by decide +kernel
theorem dX1_mapsToFold_105 : decode cX1_mapsToFold 105 = .ok (.aload_n 0, 1) := by decide +kernel
theorem dX1_mapsToFold_106 : decode cX1_mapsToFold 106 = .ok (.aload 6, 2) := by decide +kernel
theorem dX1_mapsToFold_108 : decode cX1_mapsToFold 108 = .ok (.iload_n 2, 1) := by decide +kernel
theorem dX1_mapsToFold_109 : decode cX1_mapsToFold 109 = .ok (.invokevirtual 35, 3) := by decide +kernel
theorem dX1_mapsToFold_112 : decode cX1_mapsToFold 112 = .ok (.invokevirtual 43, 3) := by decide +kernel
theorem dX1_mapsToFold_115 : decode cX1_mapsToFold 115 = .ok (.iload_n 3, 1) := by decide +kernel
theorem dX1_mapsToFold_116 : decode cX1_mapsToFold 116 = .ok (.iand, 1) := by decide +kernel
theorem dX1_mapsToFold_117 : decode cX1_mapsToFold 117 = .ok (.ifCond .ne 6, 3) := by decide +kernel
theorem dX1_mapsToFold_120 : decode cX1_mapsToFold 120 = .ok (.iload 8, 2) := by decide +kernel
theorem dX1_mapsToFold_122 : decode cX1_mapsToFold 122 = .ok (.ireturn, 1) := by decide +kernel
theorem dX1_mapsToFold_123 : decode cX1_mapsToFold 123 = .ok (.iinc 8 1, 3) := by decide +kernel
theorem dX1_mapsToFold_126 : decode cX1_mapsToFold 126 = .ok (.goto (-72), 3) := by decide +kernel
theorem dX1_mapsToFold_129 : decode cX1_mapsToFold 129 = .ok (.iinc 7 1, 3) := by decide +kernel
theorem dX1_mapsToFold_132 : decode cX1_mapsToFold 132 = .ok (.goto (-87), 3) := by decide +kernel
theorem dX1_mapsToFold_135 : decode cX1_mapsToFold 135 = .ok (.iconst (-1), 1) := by decide +kernel
theorem dX1_mapsToFold_136 : decode cX1_mapsToFold 136 = .ok (.ireturn, 1) := by decide +kernel
theorem dX1_standing_0 : decode cX1_standing 0 = .ok (.aload_n 0, 1) := by decide +kernel
theorem dX1_standing_1 : decode cX1_standing 1 = .ok (.getfield 13, 3) := by decide +kernel
theorem dX1_standing_4 : decode cX1_standing 4 = .ok (.iconst 0, 1) := by decide +kernel
theorem dX1_standing_5 : decode cX1_standing 5 = .ok (.aaload, 1) := by decide +kernel
theorem dX1_standing_6 : decode cX1_standing 6 = .ok (.aload_n 1, 1) := by decide +kernel
theorem dX1_standing_7 : decode cX1_standing 7 = .ok (.invokevirtual 26, 3) := by decide +kernel
theorem dX1_standing_10 : decode cX1_standing 10 = .ok (.aload_n 0, 1) := by decide +kernel
theorem dX1_standing_11 : decode cX1_standing 11 = .ok (.iconst 0, 1) := by decide +kernel
theorem dX1_standing_12 : decode cX1_standing 12 = .ok (.iload_n 2, 1) := by decide +kernel
theorem dX1_standing_13 : decode cX1_standing 13 = .ok (.iload_n 3, 1) := by decide +kernel
theorem dX1_standing_14 : decode cX1_standing 14 = .ok (.bipush 7, 2) := by decide +kernel
theorem dX1_standing_16 : decode cX1_standing 16 = .ok (.invokestatic 65, 3) := by decide +kernel
theorem dX1_standing_19 : decode cX1_standing 19 = .ok (.invokevirtual 71, 3) := by decide +kernel
theorem dX1_standing_22 : decode cX1_standing 22 = .ok (.ireturn, 1) := by decide +kernel
theorem dX1_standingFrom_0 : decode cX1_standingFrom 0 = .ok (.iload_n 1, 1) := by decide +kernel
theorem dX1_standingFrom_1 : decode cX1_standingFrom 1 = .ok (.iload_n 3, 1) := by decide +kernel
theorem dX1_standingFrom_2 : decode cX1_standingFrom 2 = .ok (.if_icmp .lt 26, 3) := by decide +kernel
theorem dX1_standingFrom_5 : decode cX1_standingFrom 5 = .ok (.aload_n 0, 1) := by decide +kernel
theorem dX1_standingFrom_6 : decode cX1_standingFrom 6 = .ok (.getfield 13, 3) := by decide +kernel
theorem dX1_standingFrom_9 : decode cX1_standingFrom 9 = .ok (.iload_n 1, 1) := by decide +kernel
theorem dX1_standingFrom_10 : decode cX1_standingFrom 10 = .ok (.aaload, 1) := by decide +kernel
theorem dX1_standingFrom_11 : decode cX1_standingFrom 11 = .ok (.getfield 39, 3) := by decide +kernel
theorem dX1_standingFrom_14 : decode cX1_standingFrom 14 = .ok (.bipush 15, 2) := by decide +kernel
theorem dX1_standingFrom_16 : decode cX1_standingFrom 16 = .ok (.iload_n 2, 1) := by decide +kernel
theorem dX1_standingFrom_17 : decode cX1_standingFrom 17 = .ok (.iadd, 1) := by decide +kernel
theorem dX1_standingFrom_18 : decode cX1_standingFrom 18 = .ok (.iaload, 1) := by decide +kernel
theorem dX1_standingFrom_19 : decode cX1_standingFrom 19 = .ok (.ifCond .le 7, 3) := by decide +kernel
theorem dX1_standingFrom_22 : decode cX1_standingFrom 22 = .ok (.iconst 1, 1) := by decide +kernel
theorem dX1_standingFrom_23 : decode cX1_standingFrom 23 = .ok (.goto 4, 3) := by decide +kernel
theorem dX1_standingFrom_26 : decode cX1_standingFrom 26 = .ok (.iconst 0, 1) := by decide +kernel
theorem dX1_standingFrom_27 : decode cX1_standingFrom 27 = .ok (.ireturn, 1) := by decide +kernel
theorem dX1_standingFrom_28 : decode cX1_standingFrom 28 = .ok (.aload_n 0, 1) := by decide +kernel
theorem dX1_standingFrom_29 : decode cX1_standingFrom 29 = .ok (.getfield 13, 3) := by decide +kernel
theorem dX1_standingFrom_32 : decode cX1_standingFrom 32 = .ok (.iload_n 1, 1) := by decide +kernel
theorem dX1_standingFrom_33 : decode cX1_standingFrom 33 = .ok (.iconst 1, 1) := by decide +kernel
theorem dX1_standingFrom_34 : decode cX1_standingFrom 34 = .ok (.iadd, 1) := by decide +kernel
theorem dX1_standingFrom_35 : decode cX1_standingFrom 35 = .ok (.aaload, 1) := by decide +kernel
theorem dX1_standingFrom_36 : decode cX1_standingFrom 36 = .ok (.astore 4, 2) := by decide +kernel
theorem dX1_standingFrom_38 : decode cX1_standingFrom 38 = .ok (.aload 4, 2) := by decide +kernel
theorem dX1_standingFrom_40 : decode cX1_standingFrom 40 = .ok (.aload_n 0, 1) := by decide +kernel
theorem dX1_standingFrom_41 : decode cX1_standingFrom 41 = .ok (.getfield 13, 3) := by decide +kernel
theorem dX1_standingFrom_44 : decode cX1_standingFrom 44 = .ok (.iload_n 1, 1) := by decide +kernel
theorem dX1_standingFrom_45 : decode cX1_standingFrom 45 = .ok (.aaload, 1) := by decide +kernel
theorem dX1_standingFrom_46 : decode cX1_standingFrom 46 = .ok (.invokevirtual 26, 3) := by decide +kernel
theorem dX1_standingFrom_49 : decode cX1_standingFrom 49 = .ok (.aload_n 0, 1) := by decide +kernel
theorem dX1_standingFrom_50 : decode cX1_standingFrom 50 = .ok (.getfield 21, 3) := by decide +kernel
theorem dX1_standingFrom_53 : decode cX1_standingFrom 53 = .ok (.aload 4, 2) := by decide +kernel
theorem dX1_standingFrom_55 : decode cX1_standingFrom 55 = .ok (.invokevirtual 30, 3) := by decide +kernel
theorem dX1_standingFrom_58 : decode cX1_standingFrom 58 = .ok (.iload_n 1, 1) := by decide +kernel
theorem dX1_standingFrom_59 : decode cX1_standingFrom 59 = .ok (.iconst 1, 1) := by decide +kernel
theorem dX1_standingFrom_60 : decode cX1_standingFrom 60 = .ok (.iadd, 1) := by decide +kernel
theorem dX1_standingFrom_61 : decode cX1_standingFrom 61 = .ok (.iload_n 3, 1) := by decide +kernel
theorem dX1_standingFrom_62 : decode cX1_standingFrom 62 = .ok (.if_icmp .lt 13, 3) := by decide +kernel
theorem dX1_standingFrom_65 : decode cX1_standingFrom 65 = .ok (.aload_n 0, 1) := by decide +kernel
theorem dX1_standingFrom_66 : decode cX1_standingFrom 66 = .ok (.iload_n 1, 1) := by decide +kernel
theorem dX1_standingFrom_67 : decode cX1_standingFrom 67 = .ok (.iconst 1, 1) := by decide +kernel
theorem dX1_standingFrom_68 : decode cX1_standingFrom 68 = .ok (.iadd, 1) := by decide +kernel
theorem dX1_standingFrom_69 : decode cX1_standingFrom 69 = .ok (.iload_n 2, 1) := by decide +kernel
theorem dX1_standingFrom_70 : decode cX1_standingFrom 70 = .ok (.iload_n 3, 1) := by decide +kernel
theorem dX1_standingFrom_71 : decode cX1_standingFrom 71 = .ok (.invokevirtual 71, 3) := by decide +kernel
theorem dX1_standingFrom_74 : decode cX1_standingFrom 74 = .ok (.ireturn, 1) := by decide +kernel
theorem dX1_standingFrom_75 : decode cX1_standingFrom 75 = .ok (.aload 4, 2) := by decide +kernel
theorem dX1_standingFrom_77 : decode cX1_standingFrom 77 = .ok (.getfield 39, 3) := by decide +kernel
theorem dX1_standingFrom_80 : decode cX1_standingFrom 80 = .ok (.bipush 41, 2) := by decide +kernel
theorem dX1_standingFrom_82 : decode cX1_standingFrom 82 = .ok (.iconst 0, 1) := by decide +kernel
theorem dX1_standingFrom_83 : decode cX1_standingFrom 83 = .ok (.iastore, 1) := by decide +kernel
theorem dX1_standingFrom_84 : decode cX1_standingFrom 84 = .ok (.aload_n 0, 1) := by decide +kernel
theorem dX1_standingFrom_85 : decode cX1_standingFrom 85 = .ok (.iload_n 1, 1) := by decide +kernel
theorem dX1_standingFrom_86 : decode cX1_standingFrom 86 = .ok (.iconst 1, 1) := by decide +kernel
theorem dX1_standingFrom_87 : decode cX1_standingFrom 87 = .ok (.iadd, 1) := by decide +kernel
theorem dX1_standingFrom_88 : decode cX1_standingFrom 88 = .ok (.iload_n 2, 1) := by decide +kernel
theorem dX1_standingFrom_89 : decode cX1_standingFrom 89 = .ok (.iload_n 3, 1) := by decide +kernel
theorem dX1_standingFrom_90 : decode cX1_standingFrom 90 = .ok (.invokevirtual 71, 3) := by decide +kernel
theorem dX1_standingFrom_93 : decode cX1_standingFrom 93 = .ok (.istore 5, 2) := by decide +kernel
theorem dX1_standingFrom_95 : decode cX1_standingFrom 95 = .ok (.aload 4, 2) := by decide +kernel
theorem dX1_standingFrom_97 : decode cX1_standingFrom 97 = .ok (.getfield 39, 3) := by decide +kernel
theorem dX1_standingFrom_100 : decode cX1_standingFrom 100 = .ok (.bipush 41, 2) := by decide +kernel
theorem dX1_standingFrom_102 : decode cX1_standingFrom 102 = .ok (.iconst 1, 1) := by decide +kernel
theorem dX1_standingFrom_103 : decode cX1_standingFrom 103 = .ok (.iastore, 1) := by decide +kernel
theorem dX1_standingFrom_104 : decode cX1_standingFrom 104 = .ok (.iload 5, 2) := by decide +kernel
theorem dX1_standingFrom_106 : decode cX1_standingFrom 106 = .ok (.aload_n 0, 1) := by decide +kernel
theorem dX1_standingFrom_107 : decode cX1_standingFrom 107 = .ok (.iload_n 1, 1) := by decide +kernel
theorem dX1_standingFrom_108 : decode cX1_standingFrom 108 = .ok (.iconst 1, 1) := by decide +kernel
theorem dX1_standingFrom_109 : decode cX1_standingFrom 109 = .ok (.iadd, 1) := by decide +kernel
theorem dX1_standingFrom_110 : decode cX1_standingFrom 110 = .ok (.iload_n 2, 1) := by decide +kernel
theorem dX1_standingFrom_111 : decode cX1_standingFrom 111 = .ok (.iload_n 3, 1) := by decide +kernel
theorem dX1_standingFrom_112 : decode cX1_standingFrom 112 = .ok (.invokevirtual 71, 3) := by decide +kernel
theorem dX1_standingFrom_115 : decode cX1_standingFrom 115 = .ok (.iadd, 1) := by decide +kernel
theorem dX1_standingFrom_116 : decode cX1_standingFrom 116 = .ok (.ireturn, 1) := by decide +kernel
theorem dX2_init_0 : decode cX2_init 0 = .ok (.aload_n 0, 1) := by decide +kernel
theorem dX2_init_1 : decode cX2_init 1 = .ok (.invokespecial 3, 3) := by decide +kernel
theorem dX2_init_4 : decode cX2_init 4 = .ok (.aload_n 0, 1) := by decide +kernel
theorem dX2_init_5 : decode cX2_init 5 = .ok (.sipush 1600, 3) := by decide +kernel
theorem dX2_init_8 : decode cX2_init 8 = .ok (.newarray .int, 2) := by decide +kernel
theorem dX2_init_10 : decode cX2_init 10 = .ok (.putfield 9, 3) := by decide +kernel
theorem dX2_init_13 : decode cX2_init 13 = .ok (.aload_n 0, 1) := by decide +kernel
theorem dX2_init_14 : decode cX2_init 14 = .ok (.iconst 5, 1) := by decide +kernel
theorem dX2_init_15 : decode cX2_init 15 = .ok (.newarray .int, 2) := by decide +kernel
theorem dX2_init_17 : decode cX2_init 17 = .ok (.putfield 15, 3) := by decide +kernel
theorem dX2_init_20 : decode cX2_init 20 = .ok (.aload_n 0, 1) := by decide +kernel
theorem dX2_init_21 : decode cX2_init 21 = .ok (.iconst 5, 1) := by decide +kernel
theorem dX2_init_22 : decode cX2_init 22 = .ok (.newarray .int, 2) := by decide +kernel
theorem dX2_init_24 : decode cX2_init 24 = .ok (.putfield 18, 3) := by decide +kernel
theorem dX2_init_27 : decode cX2_init 27 = .ok (.aload_n 0, 1) := by decide +kernel
theorem dX2_init_28 : decode cX2_init 28 = .ok (.bipush 7, 2) := by decide +kernel
theorem dX2_init_30 : decode cX2_init 30 = .ok (.newarray .int, 2) := by decide +kernel
theorem dX2_init_32 : decode cX2_init 32 = .ok (.putfield 21, 3) := by decide +kernel
theorem dX2_init_35 : decode cX2_init 35 = .ok (.aload_n 0, 1) := by decide +kernel
theorem dX2_init_36 : decode cX2_init 36 = .ok (.bipush 64, 2) := by decide +kernel
theorem dX2_init_38 : decode cX2_init 38 = .ok (.newarray .int, 2) := by decide +kernel
theorem dX2_init_40 : decode cX2_init 40 = .ok (.putfield 24, 3) := by decide +kernel
theorem dX2_init_43 : decode cX2_init 43 = .ok (.aload_n 0, 1) := by decide +kernel
theorem dX2_init_44 : decode cX2_init 44 = .ok (.iconst 0, 1) := by decide +kernel
theorem dX2_init_45 : decode cX2_init 45 = .ok (.putfield 27, 3) := by decide +kernel
theorem dX2_init_48 : decode cX2_init 48 = .ok (.aload_n 0, 1) := by decide +kernel
theorem dX2_init_49 : decode cX2_init 49 = .ok (.iconst 0, 1) := by decide +kernel
theorem dX2_init_50 : decode cX2_init 50 = .ok (.putfield 31, 3) := by decide +kernel
theorem dX2_init_53 : decode cX2_init 53 = .ok (.return_, 1) := by decide +kernel
theorem dX2_clear_0 : decode cX2_clear 0 = .ok (.aload_n 0, 1) := by decide +kernel
theorem dX2_clear_1 : decode cX2_clear 1 = .ok (.iconst 0, 1) := by decide +kernel
theorem dX2_clear_2 : decode cX2_clear 2 = .ok (.putfield 27, 3) := by decide +kernel
theorem dX2_clear_5 : decode cX2_clear 5 = .ok (.aload_n 0, 1) := by decide +kernel
theorem dX2_clear_6 : decode cX2_clear 6 = .ok (.iconst 0, 1) := by decide +kernel
theorem dX2_clear_7 : decode cX2_clear 7 = .ok (.putfield 31, 3) := by decide +kernel
theorem dX2_clear_10 : decode cX2_clear 10 = .ok (.aload_n 0, 1) := by decide +kernel
theorem dX2_clear_11 : decode cX2_clear 11 = .ok (.getfield 15, 3) := by decide +kernel
theorem dX2_clear_14 : decode cX2_clear 14 = .ok (.iconst 0, 1) := by decide +kernel
theorem dX2_clear_15 : decode cX2_clear 15 = .ok (.invokestatic 34, 3) := by decide +kernel
theorem dX2_clear_18 : decode cX2_clear 18 = .ok (.aload_n 0, 1) := by decide +kernel
theorem dX2_clear_19 : decode cX2_clear 19 = .ok (.getfield 18, 3) := by decide +kernel
theorem dX2_clear_22 : decode cX2_clear 22 = .ok (.iconst 0, 1) := by decide +kernel
theorem dX2_clear_23 : decode cX2_clear 23 = .ok (.invokestatic 34, 3) := by decide +kernel
theorem dX2_clear_26 : decode cX2_clear 26 = .ok (.return_, 1) := by decide +kernel
theorem dX2_open_0 : decode cX2_open 0 = .ok (.iload_n 1, 1) := by decide +kernel
theorem dX2_open_1 : decode cX2_open 1 = .ok (.ifCond .lt 32, 3) := by decide +kernel
theorem dX2_open_4 : decode cX2_open 4 = .ok (.iload_n 1, 1) := by decide +kernel
theorem dX2_open_5 : decode cX2_open 5 = .ok (.aload_n 0, 1) := by decide +kernel
theorem dX2_open_6 : decode cX2_open 6 = .ok (.getfield 15, 3) := by decide +kernel
theorem dX2_open_9 : decode cX2_open 9 = .ok (.arraylength, 1) := by decide +kernel
theorem dX2_open_10 : decode cX2_open 10 = .ok (.if_icmp .ge 23, 3) := by decide +kernel
theorem dX2_open_13 : decode cX2_open 13 = .ok (.aload_n 0, 1) := by decide +kernel
theorem dX2_open_14 : decode cX2_open 14 = .ok (.getfield 15, 3) := by decide +kernel
theorem dX2_open_17 : decode cX2_open 17 = .ok (.iload_n 1, 1) := by decide +kernel
theorem dX2_open_18 : decode cX2_open 18 = .ok (.aload_n 0, 1) := by decide +kernel
theorem dX2_open_19 : decode cX2_open 19 = .ok (.getfield 27, 3) := by decide +kernel
theorem dX2_open_22 : decode cX2_open 22 = .ok (.iastore, 1) := by decide +kernel
theorem dX2_open_23 : decode cX2_open 23 = .ok (.aload_n 0, 1) := by decide +kernel
theorem dX2_open_24 : decode cX2_open 24 = .ok (.getfield 18, 3) := by decide +kernel
theorem dX2_open_27 : decode cX2_open 27 = .ok (.iload_n 1, 1) := by decide +kernel
theorem dX2_open_28 : decode cX2_open 28 = .ok (.aload_n 0, 1) := by decide +kernel
theorem dX2_open_29 : decode cX2_open 29 = .ok (.getfield 27, 3) := by decide +kernel
theorem dX2_open_32 : decode cX2_open 32 = .ok (.iastore, 1) := by decide +kernel
theorem dX2_open_33 : decode cX2_open 33 = .ok (.return_, 1) := by decide +kernel
theorem dX2_close_0 : decode cX2_close 0 = .ok (.iload_n 1, 1) := by decide +kernel
theorem dX2_close_1 : decode cX2_close 1 = .ok (.ifCond .lt 22, 3) := by decide +kernel
theorem dX2_close_4 : decode cX2_close 4 = .ok (.iload_n 1, 1) := by decide +kernel
theorem dX2_close_5 : decode cX2_close 5 = .ok (.aload_n 0, 1) := by decide +kernel
theorem dX2_close_6 : decode cX2_close 6 = .ok (.getfield 18, 3) := by decide +kernel
theorem dX2_close_9 : decode cX2_close 9 = .ok (.arraylength, 1) := by decide +kernel
theorem dX2_close_10 : decode cX2_close 10 = .ok (.if_icmp .ge 13, 3) := by decide +kernel
theorem dX2_close_13 : decode cX2_close 13 = .ok (.aload_n 0, 1) := by decide +kernel
theorem dX2_close_14 : decode cX2_close 14 = .ok (.getfield 18, 3) := by decide +kernel
theorem dX2_close_17 : decode cX2_close 17 = .ok (.iload_n 1, 1) := by decide +kernel
theorem dX2_close_18 : decode cX2_close 18 = .ok (.aload_n 0, 1) := by decide +kernel
theorem dX2_close_19 : decode cX2_close 19 = .ok (.getfield 27, 3) := by decide +kernel
theorem dX2_close_22 : decode cX2_close 22 = .ok (.iastore, 1) := by decide +kernel
theorem dX2_close_23 : decode cX2_close 23 = .ok (.return_, 1) := by decide +kernel
theorem dX2_add_0 : decode cX2_add 0 = .ok (.aload_n 0, 1) := by decide +kernel
theorem dX2_add_1 : decode cX2_add 1 = .ok (.getfield 27, 3) := by decide +kernel
theorem dX2_add_4 : decode cX2_add 4 = .ok (.aload_n 0, 1) := by decide +kernel
theorem dX2_add_5 : decode cX2_add 5 = .ok (.getfield 9, 3) := by decide +kernel
theorem dX2_add_8 : decode cX2_add 8 = .ok (.arraylength, 1) := by decide +kernel
theorem dX2_add_9 : decode cX2_add 9 = .ok (.if_icmp .ge 23, 3) := by decide +kernel
theorem dX2_add_12 : decode cX2_add 12 = .ok (.aload_n 0, 1) := by decide +kernel
theorem dX2_add_13 : decode cX2_add 13 = .ok (.getfield 9, 3) := by decide +kernel
theorem dX2_add_16 : decode cX2_add 16 = .ok (.aload_n 0, 1) := by decide +kernel
theorem dX2_add_17 : decode cX2_add 17 = .ok (.getfield 27, 3) := by decide +kernel
theorem dX2_add_20 : decode cX2_add 20 = .ok (.iload_n 1, 1) := by decide +kernel
theorem dX2_add_21 : decode cX2_add 21 = .ok (.iastore, 1) := by decide +kernel
theorem dX2_add_22 : decode cX2_add 22 = .ok (.aload_n 0, 1) := by decide +kernel
theorem dX2_add_23 : decode cX2_add 23 = .ok (.dup, 1) := by decide +kernel
theorem dX2_add_24 : decode cX2_add 24 = .ok (.getfield 27, 3) := by decide +kernel
theorem dX2_add_27 : decode cX2_add 27 = .ok (.iconst 1, 1) := by decide +kernel
theorem dX2_add_28 : decode cX2_add 28 = .ok (.iadd, 1) := by decide +kernel
theorem dX2_add_29 : decode cX2_add 29 = .ok (.putfield 27, 3) := by decide +kernel
theorem dX2_add_32 : decode cX2_add 32 = .ok (.return_, 1) := by decide +kernel
theorem dX2_valueOf_0 : decode cX2_valueOf 0 = .ok (.iconst 0, 1) := by decide +kernel
theorem dX2_valueOf_1 : decode cX2_valueOf 1 = .ok (.istore_n 2, 1) := by decide +kernel
theorem dX2_valueOf_2 : decode cX2_valueOf 2 = .ok (.aload_n 0, 1) := by decide +kernel
theorem dX2_valueOf_3 : decode cX2_valueOf 3 = .ok (.getfield 15, 3) := by decide +kernel
theorem dX2_valueOf_6 : decode cX2_valueOf 6 = .ok (.iload_n 1, 1) := by decide +kernel
theorem dX2_valueOf_7 : decode cX2_valueOf 7 = .ok (.iaload, 1) := by decide +kernel
theorem dX2_valueOf_8 : decode cX2_valueOf 8 = .ok (.istore_n 3, 1) := by decide +kernel
theorem dX2_valueOf_9 : decode cX2_valueOf 9 = .ok (.iload_n 3, 1) := by decide +kernel
theorem dX2_valueOf_10 : decode cX2_valueOf 10 = .ok (.aload_n 0, 1) := by decide +kernel
theorem dX2_valueOf_11 : decode cX2_valueOf 11 = .ok (.getfield 18, 3) := by decide +kernel
theorem dX2_valueOf_14 : decode cX2_valueOf 14 = .ok (.iload_n 1, 1) := by decide +kernel
theorem dX2_valueOf_15 : decode cX2_valueOf 15 = .ok (.iaload, 1) := by decide +kernel
theorem dX2_valueOf_16 : decode cX2_valueOf 16 = .ok (.if_icmp .ge 474, 3) := by decide +kernel
theorem dX2_valueOf_19 : decode cX2_valueOf 19 = .ok (.iload_n 3, 1) := by decide +kernel
theorem dX2_valueOf_20 : decode cX2_valueOf 20 = .ok (.aload_n 0, 1) := by decide +kernel
theorem dX2_valueOf_21 : decode cX2_valueOf 21 = .ok (.getfield 9, 3) := by decide +kernel
theorem dX2_valueOf_24 : decode cX2_valueOf 24 = .ok (.arraylength, 1) := by decide +kernel
theorem dX2_valueOf_25 : decode cX2_valueOf 25 = .ok (.if_icmp .ge 465, 3) := by decide +kernel
theorem dX2_valueOf_28 : decode cX2_valueOf 28 = .ok (.aload_n 0, 1) := by decide +kernel
theorem dX2_valueOf_29 : decode cX2_valueOf 29 = .ok (.getfield 9, 3) := by decide +kernel
theorem dX2_valueOf_32 : decode cX2_valueOf 32 = .ok (.iload_n 3, 1) := by decide +kernel
theorem dX2_valueOf_33 : decode cX2_valueOf 33 = .ok (.iaload, 1) := by decide +kernel
theorem dX2_valueOf_34 : decode cX2_valueOf 34 = .ok (.istore 4, 2) := by decide +kernel
theorem dX2_valueOf_36 : decode cX2_valueOf 36 = .ok (.iload 4, 2) := by decide +kernel
theorem dX2_valueOf_38 : decode cX2_valueOf 38 = .ok (.ineg, 1) := by decide +kernel
theorem dX2_valueOf_39 : decode cX2_valueOf 39 = .ok (.istore 5, 2) := by decide +kernel
theorem dX2_valueOf_41 : decode cX2_valueOf 41 = .ok (.iload 5, 2) := by decide +kernel
theorem dX2_valueOf_43 : decode cX2_valueOf 43 = .ok (.sipush 136, 3) := by decide +kernel
theorem dX2_valueOf_46 : decode cX2_valueOf 46 = .ok (.if_icmp .lt 15, 3) := by decide +kernel
theorem dX2_valueOf_49 : decode cX2_valueOf 49 = .ok (.iload 5, 2) := by decide +kernel
theorem dX2_valueOf_51 : decode cX2_valueOf 51 = .ok (.sipush 142, 3) := by decide +kernel
theorem dX2_valueOf_54 : decode cX2_valueOf 54 = .ok (.if_icmp .gt 7, 3) := by decide +kernel
theorem dX2_valueOf_57 : decode cX2_valueOf 57 = .ok (.iconst 1, 1) := by decide +kernel
theorem dX2_valueOf_58 : decode cX2_valueOf 58 = .ok (.goto 4, 3) := by decide +kernel
theorem dX2_valueOf_61 : decode cX2_valueOf 61 = .ok (.iconst 0, 1) := by decide +kernel
theorem dX2_valueOf_62 : decode cX2_valueOf 62 = .ok (.istore 6, 2) := by decide +kernel
theorem dX2_valueOf_64 : decode cX2_valueOf 64 = .ok (.iload 4, 2) := by decide +kernel
theorem dX2_valueOf_66 : decode cX2_valueOf 66 = .ok (.ifCond .ge 8, 3) := by decide +kernel
theorem dX2_valueOf_69 : decode cX2_valueOf 69 = .ok (.iload 6, 2) := by decide +kernel
theorem dX2_valueOf_71 : decode cX2_valueOf 71 = .ok (.ifCond .eq 45, 3) := by decide +kernel
theorem dX2_valueOf_74 : decode cX2_valueOf 74 = .ok (.iload_n 2, 1) := by decide +kernel
theorem dX2_valueOf_75 : decode cX2_valueOf 75 = .ok (.aload_n 0, 1) := by decide +kernel
theorem dX2_valueOf_76 : decode cX2_valueOf 76 = .ok (.getfield 24, 3) := by decide +kernel
theorem dX2_valueOf_79 : decode cX2_valueOf 79 = .ok (.arraylength, 1) := by decide +kernel
theorem dX2_valueOf_80 : decode cX2_valueOf 80 = .ok (.if_icmp .ge 36, 3) := by decide +kernel
theorem dX2_valueOf_83 : decode cX2_valueOf 83 = .ok (.aload_n 0, 1) := by decide +kernel
theorem dX2_valueOf_84 : decode cX2_valueOf 84 = .ok (.getfield 24, 3) := by decide +kernel
theorem dX2_valueOf_87 : decode cX2_valueOf 87 = .ok (.iload_n 2, 1) := by decide +kernel
theorem dX2_valueOf_88 : decode cX2_valueOf 88 = .ok (.iload 6, 2) := by decide +kernel
theorem dX2_valueOf_90 : decode cX2_valueOf 90 = .ok (.ifCond .eq 17, 3) := by decide +kernel
theorem dX2_valueOf_93 : decode cX2_valueOf 93 = .ok (.aload_n 0, 1) := by decide +kernel
theorem dX2_valueOf_94 : decode cX2_valueOf 94 = .ok (.getfield 21, 3) := by decide +kernel
theorem dX2_valueOf_97 : decode cX2_valueOf 97 = .ok (.iload 5, 2) := by decide +kernel
theorem dX2_valueOf_99 : decode cX2_valueOf 99 = .ok (.sipush 136, 3) := by decide +kernel
theorem dX2_valueOf_102 : decode cX2_valueOf 102 = .ok (.isub, 1) := by decide +kernel
theorem dX2_valueOf_103 : decode cX2_valueOf 103 = .ok (.iaload, 1) := by decide +kernel
theorem dX2_valueOf_104 : decode cX2_valueOf 104 = .ok (.goto 5, 3) := by decide +kernel
theorem dX2_valueOf_107 : decode cX2_valueOf 107 = .ok (.iload 4, 2) := by decide +kernel
theorem dX2_valueOf_109 : decode cX2_valueOf 109 = .ok (.iastore, 1) := by decide +kernel
theorem dX2_valueOf_110 : decode cX2_valueOf 110 = .ok (.iinc 2 1, 3) := by decide +kernel
theorem dX2_valueOf_113 : decode cX2_valueOf 113 = .ok (.goto 371, 3) := by decide +kernel
theorem dX2_valueOf_116 : decode cX2_valueOf 116 = .ok (.iload 5, 2) := by decide +kernel
theorem dX2_valueOf_118 : decode cX2_valueOf 118 = .ok (.sipush 149, 3) := by decide +kernel
theorem dX2_valueOf_121 : decode cX2_valueOf 121 = .ok (.if_icmp .ne 35, 3) := by decide +kernel
theorem dX2_valueOf_124 : decode cX2_valueOf 124 = .ok (.iload_n 2, 1) := by decide +kernel
theorem dX2_valueOf_125 : decode cX2_valueOf 125 = .ok (.iconst 1, 1) := by decide +kernel
theorem dX2_valueOf_126 : decode cX2_valueOf 126 = .ok (.if_icmp .lt 30, 3) := by decide +kernel
theorem dX2_valueOf_129 : decode cX2_valueOf 129 = .ok (.aload_n 0, 1) := by decide +kernel
theorem dX2_valueOf_130 : decode cX2_valueOf 130 = .ok (.getfield 24, 3) := by decide +kernel
theorem dX2_valueOf_133 : decode cX2_valueOf 133 = .ok (.iload_n 2, 1) := by decide +kernel
theorem dX2_valueOf_134 : decode cX2_valueOf 134 = .ok (.iconst 1, 1) := by decide +kernel
theorem dX2_valueOf_135 : decode cX2_valueOf 135 = .ok (.isub, 1) := by decide +kernel
theorem dX2_valueOf_136 : decode cX2_valueOf 136 = .ok (.aload_n 0, 1) := by decide +kernel
theorem dX2_valueOf_137 : decode cX2_valueOf 137 = .ok (.getfield 24, 3) := by decide +kernel
theorem dX2_valueOf_140 : decode cX2_valueOf 140 = .ok (.iload_n 2, 1) := by decide +kernel
theorem dX2_valueOf_141 : decode cX2_valueOf 141 = .ok (.iconst 1, 1) := by decide +kernel
theorem dX2_valueOf_142 : decode cX2_valueOf 142 = .ok (.isub, 1) := by decide +kernel
theorem dX2_valueOf_143 : decode cX2_valueOf 143 = .ok (.iaload, 1) := by decide +kernel
theorem dX2_valueOf_144 : decode cX2_valueOf 144 = .ok (.ifCond .ne 7, 3) := by decide +kernel
theorem dX2_valueOf_147 : decode cX2_valueOf 147 = .ok (.iconst 1, 1) := by decide +kernel
theorem dX2_valueOf_148 : decode cX2_valueOf 148 = .ok (.goto 4, 3) := by decide +kernel
theorem dX2_valueOf_151 : decode cX2_valueOf 151 = .ok (.iconst 0, 1) := by decide +kernel
theorem dX2_valueOf_152 : decode cX2_valueOf 152 = .ok (.iastore, 1) := by decide +kernel
theorem dX2_valueOf_153 : decode cX2_valueOf 153 = .ok (.goto 331, 3) := by decide +kernel
theorem dX2_valueOf_156 : decode cX2_valueOf 156 = .ok (.iload_n 2, 1) := by decide +kernel
theorem dX2_valueOf_157 : decode cX2_valueOf 157 = .ok (.iconst 2, 1) := by decide +kernel
theorem dX2_valueOf_158 : decode cX2_valueOf 158 = .ok (.if_icmp .lt 326, 3) := by decide +kernel
theorem dX2_valueOf_161 : decode cX2_valueOf 161 = .ok (.iinc 2 (-1), 3) := by decide +kernel
theorem dX2_valueOf_164 : decode cX2_valueOf 164 = .ok (.aload_n 0, 1) := by decide +kernel
theorem dX2_valueOf_165 : decode cX2_valueOf 165 = .ok (.getfield 24, 3) := by decide +kernel
theorem dX2_valueOf_168 : decode cX2_valueOf 168 = .ok (.iload_n 2, 1) := by decide +kernel
theorem dX2_valueOf_169 : decode cX2_valueOf 169 = .ok (.iconst 1, 1) := by decide +kernel
theorem dX2_valueOf_170 : decode cX2_valueOf 170 = .ok (.isub, 1) := by decide +kernel
theorem dX2_valueOf_171 : decode cX2_valueOf 171 = .ok (.iaload, 1) := by decide +kernel
theorem dX2_valueOf_172 : decode cX2_valueOf 172 = .ok (.istore 7, 2) := by decide +kernel
theorem dX2_valueOf_174 : decode cX2_valueOf 174 = .ok (.aload_n 0, 1) := by decide +kernel
theorem dX2_valueOf_175 : decode cX2_valueOf 175 = .ok (.getfield 24, 3) := by decide +kernel
theorem dX2_valueOf_178 : decode cX2_valueOf 178 = .ok (.iload_n 2, 1) := by decide +kernel
theorem dX2_valueOf_179 : decode cX2_valueOf 179 = .ok (.iaload, 1) := by decide +kernel
theorem dX2_valueOf_180 : decode cX2_valueOf 180 = .ok (.istore 8, 2) := by decide +kernel
theorem dX2_valueOf_182 : decode cX2_valueOf 182 = .ok (.iload 5, 2) := by decide +kernel
theorem dX2_valueOf_184 : decode cX2_valueOf 184 = .ok (.lookupswitch 277 #[(37, 157), (42, 116), (43, 84), (45, 100), (47, 132), (60, 182), (61, 228), (62, 205), (148, 251)], 84) := by decide +kernel
theorem dX2_valueOf_268 : decode cX2_valueOf 268 = .ok (.aload_n 0, 1) := by decide +kernel
theorem dX2_valueOf_269 : decode cX2_valueOf 269 = .ok (.getfield 24, 3) := by decide +kernel
theorem dX2_valueOf_272 : decode cX2_valueOf 272 = .ok (.iload_n 2, 1) := by decide +kernel
theorem dX2_valueOf_273 : decode cX2_valueOf 273 = .ok (.iconst 1, 1) := by decide +kernel
theorem dX2_valueOf_274 : decode cX2_valueOf 274 = .ok (.isub, 1) := by decide +kernel
theorem dX2_valueOf_275 : decode cX2_valueOf 275 = .ok (.iload 7, 2) := by decide +kernel
theorem dX2_valueOf_277 : decode cX2_valueOf 277 = .ok (.iload 8, 2) := by decide +kernel
theorem dX2_valueOf_279 : decode cX2_valueOf 279 = .ok (.iadd, 1) := by decide +kernel
theorem dX2_valueOf_280 : decode cX2_valueOf 280 = .ok (.iastore, 1) := by decide +kernel
theorem dX2_valueOf_281 : decode cX2_valueOf 281 = .ok (.goto 203, 3) := by decide +kernel
theorem dX2_valueOf_284 : decode cX2_valueOf 284 = .ok (.aload_n 0, 1) := by decide +kernel
theorem dX2_valueOf_285 : decode cX2_valueOf 285 = .ok (.getfield 24, 3) := by decide +kernel
theorem dX2_valueOf_288 : decode cX2_valueOf 288 = .ok (.iload_n 2, 1) := by decide +kernel
theorem dX2_valueOf_289 : decode cX2_valueOf 289 = .ok (.iconst 1, 1) := by decide +kernel
theorem dX2_valueOf_290 : decode cX2_valueOf 290 = .ok (.isub, 1) := by decide +kernel
theorem dX2_valueOf_291 : decode cX2_valueOf 291 = .ok (.iload 7, 2) := by decide +kernel
theorem dX2_valueOf_293 : decode cX2_valueOf 293 = .ok (.iload 8, 2) := by decide +kernel
theorem dX2_valueOf_295 : decode cX2_valueOf 295 = .ok (.isub, 1) := by decide +kernel
theorem dX2_valueOf_296 : decode cX2_valueOf 296 = .ok (.iastore, 1) := by decide +kernel
theorem dX2_valueOf_297 : decode cX2_valueOf 297 = .ok (.goto 187, 3) := by decide +kernel
theorem dX2_valueOf_300 : decode cX2_valueOf 300 = .ok (.aload_n 0, 1) := by decide +kernel
theorem dX2_valueOf_301 : decode cX2_valueOf 301 = .ok (.getfield 24, 3) := by decide +kernel
theorem dX2_valueOf_304 : decode cX2_valueOf 304 = .ok (.iload_n 2, 1) := by decide +kernel
theorem dX2_valueOf_305 : decode cX2_valueOf 305 = .ok (.iconst 1, 1) := by decide +kernel
theorem dX2_valueOf_306 : decode cX2_valueOf 306 = .ok (.isub, 1) := by decide +kernel
theorem dX2_valueOf_307 : decode cX2_valueOf 307 = .ok (.iload 7, 2) := by decide +kernel
theorem dX2_valueOf_309 : decode cX2_valueOf 309 = .ok (.iload 8, 2) := by decide +kernel
theorem dX2_valueOf_311 : decode cX2_valueOf 311 = .ok (.imul, 1) := by decide +kernel
theorem dX2_valueOf_312 : decode cX2_valueOf 312 = .ok (.iastore, 1) := by decide +kernel
theorem dX2_valueOf_313 : decode cX2_valueOf 313 = .ok (.goto 171, 3) := by decide +kernel
theorem dX2_valueOf_316 : decode cX2_valueOf 316 = .ok (.aload_n 0, 1) := by decide +kernel
theorem dX2_valueOf_317 : decode cX2_valueOf 317 = .ok (.getfield 24, 3) := by decide +kernel
theorem dX2_valueOf_320 : decode cX2_valueOf 320 = .ok (.iload_n 2, 1) := by decide +kernel
theorem dX2_valueOf_321 : decode cX2_valueOf 321 = .ok (.iconst 1, 1) := by decide +kernel
theorem dX2_valueOf_322 : decode cX2_valueOf 322 = .ok (.isub, 1) := by decide +kernel
theorem dX2_valueOf_323 : decode cX2_valueOf 323 = .ok (.iload 8, 2) := by decide +kernel
theorem dX2_valueOf_325 : decode cX2_valueOf 325 = .ok (.ifCond .ne 7, 3) := by decide +kernel
theorem dX2_valueOf_328 : decode cX2_valueOf 328 = .ok (.iconst 0, 1) := by decide +kernel
theorem dX2_valueOf_329 : decode cX2_valueOf 329 = .ok (.goto 8, 3) := by decide +kernel
theorem dX2_valueOf_332 : decode cX2_valueOf 332 = .ok (.iload 7, 2) := by decide +kernel
theorem dX2_valueOf_334 : decode cX2_valueOf 334 = .ok (.iload 8, 2) := by decide +kernel
theorem dX2_valueOf_336 : decode cX2_valueOf 336 = .ok (.idiv, 1) := by decide +kernel
theorem dX2_valueOf_337 : decode cX2_valueOf 337 = .ok (.iastore, 1) := by decide +kernel
theorem dX2_valueOf_338 : decode cX2_valueOf 338 = .ok (.goto 146, 3) := by decide +kernel
theorem dX2_valueOf_341 : decode cX2_valueOf 341 = .ok (.aload_n 0, 1) := by decide +kernel
theorem dX2_valueOf_342 : decode cX2_valueOf 342 = .ok (.getfield 24, 3) := by decide +kernel
theorem dX2_valueOf_345 : decode cX2_valueOf 345 = .ok (.iload_n 2, 1) := by decide +kernel
theorem dX2_valueOf_346 : decode cX2_valueOf 346 = .ok (.iconst 1, 1) := by decide +kernel
theorem dX2_valueOf_347 : decode cX2_valueOf 347 = .ok (.isub, 1) := by decide +kernel
theorem dX2_valueOf_348 : decode cX2_valueOf 348 = .ok (.iload 8, 2) := by decide +kernel
theorem dX2_valueOf_350 : decode cX2_valueOf 350 = .ok (.ifCond .ne 7, 3) := by decide +kernel
theorem dX2_valueOf_353 : decode cX2_valueOf 353 = .ok (.iconst 0, 1) := by decide +kernel
theorem dX2_valueOf_354 : decode cX2_valueOf 354 = .ok (.goto 8, 3) := by decide +kernel
theorem dX2_valueOf_357 : decode cX2_valueOf 357 = .ok (.iload 7, 2) := by decide +kernel
theorem dX2_valueOf_359 : decode cX2_valueOf 359 = .ok (.iload 8, 2) := by decide +kernel
theorem dX2_valueOf_361 : decode cX2_valueOf 361 = .ok (.irem, 1) := by decide +kernel
theorem dX2_valueOf_362 : decode cX2_valueOf 362 = .ok (.iastore, 1) := by decide +kernel
theorem dX2_valueOf_363 : decode cX2_valueOf 363 = .ok (.goto 121, 3) := by decide +kernel
theorem dX2_valueOf_366 : decode cX2_valueOf 366 = .ok (.aload_n 0, 1) := by decide +kernel
theorem dX2_valueOf_367 : decode cX2_valueOf 367 = .ok (.getfield 24, 3) := by decide +kernel
theorem dX2_valueOf_370 : decode cX2_valueOf 370 = .ok (.iload_n 2, 1) := by decide +kernel
theorem dX2_valueOf_371 : decode cX2_valueOf 371 = .ok (.iconst 1, 1) := by decide +kernel
theorem dX2_valueOf_372 : decode cX2_valueOf 372 = .ok (.isub, 1) := by decide +kernel
theorem dX2_valueOf_373 : decode cX2_valueOf 373 = .ok (.iload 7, 2) := by decide +kernel
theorem dX2_valueOf_375 : decode cX2_valueOf 375 = .ok (.iload 8, 2) := by decide +kernel
theorem dX2_valueOf_377 : decode cX2_valueOf 377 = .ok (.if_icmp .ge 7, 3) := by decide +kernel
theorem dX2_valueOf_380 : decode cX2_valueOf 380 = .ok (.iconst 1, 1) := by decide +kernel
theorem dX2_valueOf_381 : decode cX2_valueOf 381 = .ok (.goto 4, 3) := by decide +kernel
theorem dX2_valueOf_384 : decode cX2_valueOf 384 = .ok (.iconst 0, 1) := by decide +kernel
theorem dX2_valueOf_385 : decode cX2_valueOf 385 = .ok (.iastore, 1) := by decide +kernel
theorem dX2_valueOf_386 : decode cX2_valueOf 386 = .ok (.goto 98, 3) := by decide +kernel
theorem dX2_valueOf_389 : decode cX2_valueOf 389 = .ok (.aload_n 0, 1) := by decide +kernel
theorem dX2_valueOf_390 : decode cX2_valueOf 390 = .ok (.getfield 24, 3) := by decide +kernel
theorem dX2_valueOf_393 : decode cX2_valueOf 393 = .ok (.iload_n 2, 1) := by decide +kernel
theorem dX2_valueOf_394 : decode cX2_valueOf 394 = .ok (.iconst 1, 1) := by decide +kernel
theorem dX2_valueOf_395 : decode cX2_valueOf 395 = .ok (.isub, 1) := by decide +kernel
theorem dX2_valueOf_396 : decode cX2_valueOf 396 = .ok (.iload 7, 2) := by decide +kernel
theorem dX2_valueOf_398 : decode cX2_valueOf 398 = .ok (.iload 8, 2) := by decide +kernel
theorem dX2_valueOf_400 : decode cX2_valueOf 400 = .ok (.if_icmp .le 7, 3) := by decide +kernel
theorem dX2_valueOf_403 : decode cX2_valueOf 403 = .ok (.iconst 1, 1) := by decide +kernel
theorem dX2_valueOf_404 : decode cX2_valueOf 404 = .ok (.goto 4, 3) := by decide +kernel
theorem dX2_valueOf_407 : decode cX2_valueOf 407 = .ok (.iconst 0, 1) := by decide +kernel
theorem dX2_valueOf_408 : decode cX2_valueOf 408 = .ok (.iastore, 1) := by decide +kernel
theorem dX2_valueOf_409 : decode cX2_valueOf 409 = .ok (.goto 75, 3) := by decide +kernel
theorem dX2_valueOf_412 : decode cX2_valueOf 412 = .ok (.aload_n 0, 1) := by decide +kernel
theorem dX2_valueOf_413 : decode cX2_valueOf 413 = .ok (.getfield 24, 3) := by decide +kernel
theorem dX2_valueOf_416 : decode cX2_valueOf 416 = .ok (.iload_n 2, 1) := by decide +kernel
theorem dX2_valueOf_417 : decode cX2_valueOf 417 = .ok (.iconst 1, 1) := by decide +kernel
theorem dX2_valueOf_418 : decode cX2_valueOf 418 = .ok (.isub, 1) := by decide +kernel
theorem dX2_valueOf_419 : decode cX2_valueOf 419 = .ok (.iload 7, 2) := by decide +kernel
theorem dX2_valueOf_421 : decode cX2_valueOf 421 = .ok (.iload 8, 2) := by decide +kernel
theorem dX2_valueOf_423 : decode cX2_valueOf 423 = .ok (.if_icmp .ne 7, 3) := by decide +kernel
theorem dX2_valueOf_426 : decode cX2_valueOf 426 = .ok (.iconst 1, 1) := by decide +kernel
theorem dX2_valueOf_427 : decode cX2_valueOf 427 = .ok (.goto 4, 3) := by decide +kernel
theorem dX2_valueOf_430 : decode cX2_valueOf 430 = .ok (.iconst 0, 1) := by decide +kernel
theorem dX2_valueOf_431 : decode cX2_valueOf 431 = .ok (.iastore, 1) := by decide +kernel
theorem dX2_valueOf_432 : decode cX2_valueOf 432 = .ok (.goto 52, 3) := by decide +kernel
theorem dX2_valueOf_435 : decode cX2_valueOf 435 = .ok (.aload_n 0, 1) := by decide +kernel
theorem dX2_valueOf_436 : decode cX2_valueOf 436 = .ok (.getfield 24, 3) := by decide +kernel
theorem dX2_valueOf_439 : decode cX2_valueOf 439 = .ok (.iload_n 2, 1) := by decide +kernel
theorem dX2_valueOf_440 : decode cX2_valueOf 440 = .ok (.iconst 1, 1) := by decide +kernel
theorem dX2_valueOf_441 : decode cX2_valueOf 441 = .ok (.isub, 1) := by decide +kernel
theorem dX2_valueOf_442 : decode cX2_valueOf 442 = .ok (.iload 7, 2) := by decide +kernel
theorem dX2_valueOf_444 : decode cX2_valueOf 444 = .ok (.ifCond .eq 12, 3) := by decide +kernel
theorem dX2_valueOf_447 : decode cX2_valueOf 447 = .ok (.iload 8, 2) := by decide +kernel
theorem dX2_valueOf_449 : decode cX2_valueOf 449 = .ok (.ifCond .eq 7, 3) := by decide +kernel
theorem dX2_valueOf_452 : decode cX2_valueOf 452 = .ok (.iconst 1, 1) := by decide +kernel
theorem dX2_valueOf_453 : decode cX2_valueOf 453 = .ok (.goto 4, 3) := by decide +kernel
theorem dX2_valueOf_456 : decode cX2_valueOf 456 = .ok (.iconst 0, 1) := by decide +kernel
theorem dX2_valueOf_457 : decode cX2_valueOf 457 = .ok (.iastore, 1) := by decide +kernel
theorem dX2_valueOf_458 : decode cX2_valueOf 458 = .ok (.goto 26, 3) := by decide +kernel
theorem dX2_valueOf_461 : decode cX2_valueOf 461 = .ok (.aload_n 0, 1) := by decide +kernel
theorem dX2_valueOf_462 : decode cX2_valueOf 462 = .ok (.getfield 24, 3) := by decide +kernel
theorem dX2_valueOf_465 : decode cX2_valueOf 465 = .ok (.iload_n 2, 1) := by decide +kernel
theorem dX2_valueOf_466 : decode cX2_valueOf 466 = .ok (.iconst 1, 1) := by decide +kernel
theorem dX2_valueOf_467 : decode cX2_valueOf 467 = .ok (.isub, 1) := by decide +kernel
theorem dX2_valueOf_468 : decode cX2_valueOf 468 = .ok (.iload 7, 2) := by decide +kernel
theorem dX2_valueOf_470 : decode cX2_valueOf 470 = .ok (.ifCond .ne 8, 3) := by decide +kernel
theorem dX2_valueOf_473 : decode cX2_valueOf 473 = .ok (.iload 8, 2) := by decide +kernel
theorem dX2_valueOf_475 : decode cX2_valueOf 475 = .ok (.ifCond .eq 7, 3) := by decide +kernel
theorem dX2_valueOf_478 : decode cX2_valueOf 478 = .ok (.iconst 1, 1) := by decide +kernel
theorem dX2_valueOf_479 : decode cX2_valueOf 479 = .ok (.goto 4, 3) := by decide +kernel
theorem dX2_valueOf_482 : decode cX2_valueOf 482 = .ok (.iconst 0, 1) := by decide +kernel
theorem dX2_valueOf_483 : decode cX2_valueOf 483 = .ok (.iastore, 1) := by decide +kernel
theorem dX2_valueOf_484 : decode cX2_valueOf 484 = .ok (.iinc 3 1, 3) := by decide +kernel
theorem dX2_valueOf_487 : decode cX2_valueOf 487 = .ok (.goto (-478), 3) := by decide +kernel
theorem dX2_valueOf_490 : decode cX2_valueOf 490 = .ok (.iload_n 2, 1) := by decide +kernel
theorem dX2_valueOf_491 : decode cX2_valueOf 491 = .ok (.ifCond .le 14, 3) := by decide +kernel
theorem dX2_valueOf_494 : decode cX2_valueOf 494 = .ok (.aload_n 0, 1) := by decide +kernel
theorem dX2_valueOf_495 : decode cX2_valueOf 495 = .ok (.getfield 24, 3) := by decide +kernel
theorem dX2_valueOf_498 : decode cX2_valueOf 498 = .ok (.iload_n 2, 1) := by decide +kernel
theorem dX2_valueOf_499 : decode cX2_valueOf 499 = .ok (.iconst 1, 1) := by decide +kernel
theorem dX2_valueOf_500 : decode cX2_valueOf 500 = .ok (.isub, 1) := by decide +kernel
theorem dX2_valueOf_501 : decode cX2_valueOf 501 = .ok (.iaload, 1) := by decide +kernel
theorem dX2_valueOf_502 : decode cX2_valueOf 502 = .ok (.goto 4, 3) := by decide +kernel
theorem dX2_valueOf_505 : decode cX2_valueOf 505 = .ok (.iconst 0, 1) := by decide +kernel
theorem dX2_valueOf_506 : decode cX2_valueOf 506 = .ok (.ireturn, 1) := by decide +kernel
theorem dX3_init_0 : decode cX3_init 0 = .ok (.aload_n 0, 1) := by decide +kernel
theorem dX3_init_1 : decode cX3_init 1 = .ok (.invokespecial 1, 3) := by decide +kernel
theorem dX3_init_4 : decode cX3_init 4 = .ok (.aload_n 0, 1) := by decide +kernel
theorem dX3_init_5 : decode cX3_init 5 = .ok (.bipush 41, 2) := by decide +kernel
theorem dX3_init_7 : decode cX3_init 7 = .ok (.anewarray 9, 3) := by decide +kernel
theorem dX3_init_10 : decode cX3_init 10 = .ok (.putfield 11, 3) := by decide +kernel
theorem dX3_init_13 : decode cX3_init 13 = .ok (.aload_n 0, 1) := by decide +kernel
theorem dX3_init_14 : decode cX3_init 14 = .ok (.iconst 0, 1) := by decide +kernel
theorem dX3_init_15 : decode cX3_init 15 = .ok (.putfield 15, 3) := by decide +kernel
theorem dX3_init_18 : decode cX3_init 18 = .ok (.aload_n 0, 1) := by decide +kernel
theorem dX3_init_19 : decode cX3_init 19 = .ok (.iconst 0, 1) := by decide +kernel
theorem dX3_init_20 : decode cX3_init 20 = .ok (.putfield 19, 3) := by decide +kernel
theorem dX3_init_23 : decode cX3_init 23 = .ok (.aload_n 0, 1) := by decide +kernel
theorem dX3_init_24 : decode cX3_init 24 = .ok (.iconst 0, 1) := by decide +kernel
theorem dX3_init_25 : decode cX3_init 25 = .ok (.putfield 22, 3) := by decide +kernel
theorem dX3_init_28 : decode cX3_init 28 = .ok (.iconst 0, 1) := by decide +kernel
theorem dX3_init_29 : decode cX3_init 29 = .ok (.istore_n 1, 1) := by decide +kernel
theorem dX3_init_30 : decode cX3_init 30 = .ok (.iload_n 1, 1) := by decide +kernel
theorem dX3_init_31 : decode cX3_init 31 = .ok (.aload_n 0, 1) := by decide +kernel
theorem dX3_init_32 : decode cX3_init 32 = .ok (.getfield 11, 3) := by decide +kernel
theorem dX3_init_35 : decode cX3_init 35 = .ok (.arraylength, 1) := by decide +kernel
theorem dX3_init_36 : decode cX3_init 36 = .ok (.if_icmp .ge 22, 3) := by decide +kernel
theorem dX3_init_39 : decode cX3_init 39 = .ok (.aload_n 0, 1) := by decide +kernel
theorem dX3_init_40 : decode cX3_init 40 = .ok (.getfield 11, 3) := by decide +kernel
theorem dX3_init_43 : decode cX3_init 43 = .ok (.iload_n 1, 1) := by decide +kernel
theorem dX3_init_44 : decode cX3_init 44 = .ok (.new 9, 3) := by decide +kernel
theorem dX3_init_47 : decode cX3_init 47 = .ok (.dup, 1) := by decide +kernel
theorem dX3_init_48 : decode cX3_init 48 = .ok (.invokespecial 25, 3) := by decide +kernel
theorem dX3_init_51 : decode cX3_init 51 = .ok (.aastore, 1) := by decide +kernel
theorem dX3_init_52 : decode cX3_init 52 = .ok (.iinc 1 1, 3) := by decide +kernel
theorem dX3_init_55 : decode cX3_init 55 = .ok (.goto (-25), 3) := by decide +kernel
theorem dX3_init_58 : decode cX3_init 58 = .ok (.return_, 1) := by decide +kernel
theorem dX3_now_0 : decode cX3_now 0 = .ok (.aload_n 0, 1) := by decide +kernel
theorem dX3_now_1 : decode cX3_now 1 = .ok (.getfield 11, 3) := by decide +kernel
theorem dX3_now_4 : decode cX3_now 4 = .ok (.aload_n 0, 1) := by decide +kernel
theorem dX3_now_5 : decode cX3_now 5 = .ok (.getfield 15, 3) := by decide +kernel
theorem dX3_now_8 : decode cX3_now 8 = .ok (.aload_n 0, 1) := by decide +kernel
theorem dX3_now_9 : decode cX3_now 9 = .ok (.getfield 19, 3) := by decide +kernel
theorem dX3_now_12 : decode cX3_now 12 = .ok (.iadd, 1) := by decide +kernel
theorem dX3_now_13 : decode cX3_now 13 = .ok (.aload_n 0, 1) := by decide +kernel
theorem dX3_now_14 : decode cX3_now 14 = .ok (.getfield 11, 3) := by decide +kernel
theorem dX3_now_17 : decode cX3_now 17 = .ok (.arraylength, 1) := by decide +kernel
theorem dX3_now_18 : decode cX3_now 18 = .ok (.irem, 1) := by decide +kernel
theorem dX3_now_19 : decode cX3_now 19 = .ok (.aaload, 1) := by decide +kernel
theorem dX3_now_20 : decode cX3_now 20 = .ok (.areturn, 1) := by decide +kernel
theorem dX3_advance_0 : decode cX3_advance 0 = .ok (.aload_n 0, 1) := by decide +kernel
theorem dX3_advance_1 : decode cX3_advance 1 = .ok (.invokevirtual 26, 3) := by decide +kernel
theorem dX3_advance_4 : decode cX3_advance 4 = .ok (.astore_n 1, 1) := by decide +kernel
theorem dX3_advance_5 : decode cX3_advance 5 = .ok (.aload_n 0, 1) := by decide +kernel
theorem dX3_advance_6 : decode cX3_advance 6 = .ok (.getfield 19, 3) := by decide +kernel
theorem dX3_advance_9 : decode cX3_advance 9 = .ok (.bipush 40, 2) := by decide +kernel
theorem dX3_advance_11 : decode cX3_advance 11 = .ok (.if_icmp .ge 16, 3) := by decide +kernel
theorem dX3_advance_14 : decode cX3_advance 14 = .ok (.aload_n 0, 1) := by decide +kernel
theorem dX3_advance_15 : decode cX3_advance 15 = .ok (.dup, 1) := by decide +kernel
theorem dX3_advance_16 : decode cX3_advance 16 = .ok (.getfield 19, 3) := by decide +kernel
theorem dX3_advance_19 : decode cX3_advance 19 = .ok (.iconst 1, 1) := by decide +kernel
theorem dX3_advance_20 : decode cX3_advance 20 = .ok (.iadd, 1) := by decide +kernel
theorem dX3_advance_21 : decode cX3_advance 21 = .ok (.putfield 19, 3) := by decide +kernel
theorem dX3_advance_24 : decode cX3_advance 24 = .ok (.goto 19, 3) := by decide +kernel
theorem dX3_advance_27 : decode cX3_advance 27 = .ok (.aload_n 0, 1) := by decide +kernel
theorem dX3_advance_28 : decode cX3_advance 28 = .ok (.aload_n 0, 1) := by decide +kernel
theorem dX3_advance_29 : decode cX3_advance 29 = .ok (.getfield 15, 3) := by decide +kernel
theorem dX3_advance_32 : decode cX3_advance 32 = .ok (.iconst 1, 1) := by decide +kernel
theorem dX3_advance_33 : decode cX3_advance 33 = .ok (.iadd, 1) := by decide +kernel
theorem dX3_advance_34 : decode cX3_advance 34 = .ok (.aload_n 0, 1) := by decide +kernel
theorem dX3_advance_35 : decode cX3_advance 35 = .ok (.getfield 11, 3) := by decide +kernel
theorem dX3_advance_38 : decode cX3_advance 38 = .ok (.arraylength, 1) := by decide +kernel
theorem dX3_advance_39 : decode cX3_advance 39 = .ok (.irem, 1) := by decide +kernel
theorem dX3_advance_40 : decode cX3_advance 40 = .ok (.putfield 15, 3) := by decide +kernel
theorem dX3_advance_43 : decode cX3_advance 43 = .ok (.aload_n 0, 1) := by decide +kernel
theorem dX3_advance_44 : decode cX3_advance 44 = .ok (.iconst 0, 1) := by decide +kernel
theorem dX3_advance_45 : decode cX3_advance 45 = .ok (.putfield 22, 3) := by decide +kernel
theorem dX3_advance_48 : decode cX3_advance 48 = .ok (.aload_n 0, 1) := by decide +kernel
theorem dX3_advance_49 : decode cX3_advance 49 = .ok (.invokevirtual 26, 3) := by decide +kernel
theorem dX3_advance_52 : decode cX3_advance 52 = .ok (.aload_n 1, 1) := by decide +kernel
theorem dX3_advance_53 : decode cX3_advance 53 = .ok (.invokevirtual 30, 3) := by decide +kernel
theorem dX3_advance_56 : decode cX3_advance 56 = .ok (.aload_n 0, 1) := by decide +kernel
theorem dX3_advance_57 : decode cX3_advance 57 = .ok (.invokevirtual 26, 3) := by decide +kernel
theorem dX3_advance_60 : decode cX3_advance 60 = .ok (.areturn, 1) := by decide +kernel
theorem dX3_stepBack_0 : decode cX3_stepBack 0 = .ok (.aload_n 0, 1) := by decide +kernel
theorem dX3_stepBack_1 : decode cX3_stepBack 1 = .ok (.getfield 19, 3) := by decide +kernel
theorem dX3_stepBack_4 : decode cX3_stepBack 4 = .ok (.ifCond .ne 5, 3) := by decide +kernel
theorem dX3_stepBack_7 : decode cX3_stepBack 7 = .ok (.iconst 0, 1) := by decide +kernel
theorem dX3_stepBack_8 : decode cX3_stepBack 8 = .ok (.ireturn, 1) := by decide +kernel
theorem dX3_stepBack_9 : decode cX3_stepBack 9 = .ok (.aload_n 0, 1) := by decide +kernel
theorem dX3_stepBack_10 : decode cX3_stepBack 10 = .ok (.dup, 1) := by decide +kernel
theorem dX3_stepBack_11 : decode cX3_stepBack 11 = .ok (.getfield 19, 3) := by decide +kernel
theorem dX3_stepBack_14 : decode cX3_stepBack 14 = .ok (.iconst 1, 1) := by decide +kernel
theorem dX3_stepBack_15 : decode cX3_stepBack 15 = .ok (.isub, 1) := by decide +kernel
theorem dX3_stepBack_16 : decode cX3_stepBack 16 = .ok (.putfield 19, 3) := by decide +kernel
theorem dX3_stepBack_19 : decode cX3_stepBack 19 = .ok (.aload_n 0, 1) := by decide +kernel
theorem dX3_stepBack_20 : decode cX3_stepBack 20 = .ok (.dup, 1) := by decide +kernel
theorem dX3_stepBack_21 : decode cX3_stepBack 21 = .ok (.getfield 22, 3) := by decide +kernel
theorem dX3_stepBack_24 : decode cX3_stepBack 24 = .ok (.iconst 1, 1) := by decide +kernel
theorem dX3_stepBack_25 : decode cX3_stepBack 25 = .ok (.iadd, 1) := by decide +kernel
theorem dX3_stepBack_26 : decode cX3_stepBack 26 = .ok (.putfield 22, 3) := by decide +kernel
theorem dX3_stepBack_29 : decode cX3_stepBack 29 = .ok (.iconst 1, 1) := by decide +kernel
theorem dX3_stepBack_30 : decode cX3_stepBack 30 = .ok (.ireturn, 1) := by decide +kernel
theorem dX3_stepOn_0 : decode cX3_stepOn 0 = .ok (.aload_n 0, 1) := by decide +kernel
theorem dX3_stepOn_1 : decode cX3_stepOn 1 = .ok (.getfield 22, 3) := by decide +kernel
theorem dX3_stepOn_4 : decode cX3_stepOn 4 = .ok (.ifCond .ne 5, 3) := by decide +kernel
theorem dX3_stepOn_7 : decode cX3_stepOn 7 = .ok (.iconst 0, 1) := by decide +kernel
theorem dX3_stepOn_8 : decode cX3_stepOn 8 = .ok (.ireturn, 1) := by decide +kernel
theorem dX3_stepOn_9 : decode cX3_stepOn 9 = .ok (.aload_n 0, 1) := by decide +kernel
theorem dX3_stepOn_10 : decode cX3_stepOn 10 = .ok (.dup, 1) := by decide +kernel
theorem dX3_stepOn_11 : decode cX3_stepOn 11 = .ok (.getfield 19, 3) := by decide +kernel
theorem dX3_stepOn_14 : decode cX3_stepOn 14 = .ok (.iconst 1, 1) := by decide +kernel
theorem dX3_stepOn_15 : decode cX3_stepOn 15 = .ok (.iadd, 1) := by decide +kernel
theorem dX3_stepOn_16 : decode cX3_stepOn 16 = .ok (.putfield 19, 3) := by decide +kernel
theorem dX3_stepOn_19 : decode cX3_stepOn 19 = .ok (.aload_n 0, 1) := by decide +kernel
theorem dX3_stepOn_20 : decode cX3_stepOn 20 = .ok (.dup, 1) := by decide +kernel
theorem dX3_stepOn_21 : decode cX3_stepOn 21 = .ok (.getfield 22, 3) := by decide +kernel
theorem dX3_stepOn_24 : decode cX3_stepOn 24 = .ok (.iconst 1, 1) := by decide +kernel
theorem dX3_stepOn_25 : decode cX3_stepOn 25 = .ok (.isub, 1) := by decide +kernel
theorem dX3_stepOn_26 : decode cX3_stepOn 26 = .ok (.putfield 22, 3) := by decide +kernel
theorem dX3_stepOn_29 : decode cX3_stepOn 29 = .ok (.iconst 1, 1) := by decide +kernel
theorem dX3_stepOn_30 : decode cX3_stepOn 30 = .ok (.ireturn, 1) := by decide +kernel
theorem dX3_restart_0 : decode cX3_restart 0 = .ok (.aload_n 0, 1) := by decide +kernel
theorem dX3_restart_1 : decode cX3_restart 1 = .ok (.iconst 0, 1) := by decide +kernel
theorem dX3_restart_2 : decode cX3_restart 2 = .ok (.putfield 15, 3) := by decide +kernel
theorem dX3_restart_5 : decode cX3_restart 5 = .ok (.aload_n 0, 1) := by decide +kernel
theorem dX3_restart_6 : decode cX3_restart 6 = .ok (.iconst 0, 1) := by decide +kernel
theorem dX3_restart_7 : decode cX3_restart 7 = .ok (.putfield 19, 3) := by decide +kernel
theorem dX3_restart_10 : decode cX3_restart 10 = .ok (.aload_n 0, 1) := by decide +kernel
theorem dX3_restart_11 : decode cX3_restart 11 = .ok (.iconst 0, 1) := by decide +kernel
theorem dX3_restart_12 : decode cX3_restart 12 = .ok (.putfield 22, 3) := by decide +kernel
theorem dX3_restart_15 : decode cX3_restart 15 = .ok (.aload_n 0, 1) := by decide +kernel
theorem dX3_restart_16 : decode cX3_restart 16 = .ok (.getfield 11, 3) := by decide +kernel
theorem dX3_restart_19 : decode cX3_restart 19 = .ok (.iconst 0, 1) := by decide +kernel
theorem dX3_restart_20 : decode cX3_restart 20 = .ok (.aaload, 1) := by decide +kernel
theorem dX3_restart_21 : decode cX3_restart 21 = .ok (.aload_n 1, 1) := by decide +kernel
theorem dX3_restart_22 : decode cX3_restart 22 = .ok (.invokevirtual 30, 3) := by decide +kernel
theorem dX3_restart_25 : decode cX3_restart 25 = .ok (.return_, 1) := by decide +kernel
