theorem dX11_has_0 : decode cX11_has 0 = .ok (.iload_n 0, 1) := by decide +kernel
theorem dX11_has_1 : decode cX11_has 1 = .ok (.iload_n 1, 1) := by decide +kernel
theorem dX11_has_2 : decode cX11_has 2 = .ok (.ishr, 1) := by decide +kernel
theorem dX11_has_3 : decode cX11_has 3 = .ok (.iconst 1, 1) := by decide +kernel
theorem dX11_has_4 : decode cX11_has 4 = .ok (.iand, 1) := by decide +kernel
theorem dX11_has_5 : decode cX11_has 5 = .ok (.iconst 1, 1) := by decide +kernel
theorem dX11_has_6 : decode cX11_has 6 = .ok (.if_icmp .ne 7, 3) := by decide +kernel
theorem dX11_has_9 : decode cX11_has 9 = .ok (.iconst 1, 1) := by decide +kernel
theorem dX11_has_10 : decode cX11_has 10 = .ok (.goto 4, 3) := by decide +kernel
theorem dX11_has_13 : decode cX11_has 13 = .ok (.iconst 0, 1) := by decide +kernel
theorem dX11_has_14 : decode cX11_has 14 = .ok (.ireturn, 1) := by decide +kernel
theorem dX11_bitsOf_0 : decode cX11_bitsOf 0 = .ok (.iconst 0, 1) := by decide +kernel
theorem dX11_bitsOf_1 : decode cX11_bitsOf 1 = .ok (.istore_n 1, 1) := by decide +kernel
theorem dX11_bitsOf_2 : decode cX11_bitsOf 2 = .ok (.iload_n 0, 1) := by decide +kernel
theorem dX11_bitsOf_3 : decode cX11_bitsOf 3 = .ok (.istore_n 2, 1) := by decide +kernel
theorem dX11_bitsOf_4 : decode cX11_bitsOf 4 = .ok (.iload_n 2, 1) := by decide +kernel
theorem dX11_bitsOf_5 : decode cX11_bitsOf 5 = .ok (.ifCond .eq 15, 3) := by decide +kernel
theorem dX11_bitsOf_8 : decode cX11_bitsOf 8 = .ok (.iinc 1 1, 3) := by decide +kernel
theorem dX11_bitsOf_11 : decode cX11_bitsOf 11 = .ok (.iload_n 2, 1) := by decide +kernel
theorem dX11_bitsOf_12 : decode cX11_bitsOf 12 = .ok (.iload_n 2, 1) := by decide +kernel
theorem dX11_bitsOf_13 : decode cX11_bitsOf 13 = .ok (.iconst 1, 1) := by decide +kernel
theorem dX11_bitsOf_14 : decode cX11_bitsOf 14 = .ok (.isub, 1) := by decide +kernel
theorem dX11_bitsOf_15 : decode cX11_bitsOf 15 = .ok (.iand, 1) := by decide +kernel
theorem dX11_bitsOf_16 : decode cX11_bitsOf 16 = .ok (.istore_n 2, 1) := by decide +kernel
theorem dX11_bitsOf_17 : decode cX11_bitsOf 17 = .ok (.goto (-13), 3) := by decide +kernel
theorem dX11_bitsOf_20 : decode cX11_bitsOf 20 = .ok (.iload_n 1, 1) := by decide +kernel
theorem dX11_bitsOf_21 : decode cX11_bitsOf 21 = .ok (.ireturn, 1) := by decide +kernel
theorem dX11_divisor_0 : decode cX11_divisor 0 = .ok (.iload_n 0, 1) := by decide +kernel
theorem dX11_divisor_1 : decode cX11_divisor 1 = .ok (.istore_n 2, 1) := by decide +kernel
theorem dX11_divisor_2 : decode cX11_divisor 2 = .ok (.iload_n 1, 1) := by decide +kernel
theorem dX11_divisor_3 : decode cX11_divisor 3 = .ok (.istore_n 3, 1) := by decide +kernel
theorem dX11_divisor_4 : decode cX11_divisor 4 = .ok (.iload_n 3, 1) := by decide +kernel
theorem dX11_divisor_5 : decode cX11_divisor 5 = .ok (.ifCond .le 16, 3) := by decide +kernel
theorem dX11_divisor_8 : decode cX11_divisor 8 = .ok (.iload_n 2, 1) := by decide +kernel
theorem dX11_divisor_9 : decode cX11_divisor 9 = .ok (.iload_n 3, 1) := by decide +kernel
theorem dX11_divisor_10 : decode cX11_divisor 10 = .ok (.irem, 1) := by decide +kernel
theorem dX11_divisor_11 : decode cX11_divisor 11 = .ok (.istore 4, 2) := by decide +kernel
theorem dX11_divisor_13 : decode cX11_divisor 13 = .ok (.iload_n 3, 1) := by decide +kernel
theorem dX11_divisor_14 : decode cX11_divisor 14 = .ok (.istore_n 2, 1) := by decide +kernel
theorem dX11_divisor_15 : decode cX11_divisor 15 = .ok (.iload 4, 2) := by decide +kernel
theorem dX11_divisor_17 : decode cX11_divisor 17 = .ok (.istore_n 3, 1) := by decide +kernel
theorem dX11_divisor_18 : decode cX11_divisor 18 = .ok (.goto (-14), 3) := by decide +kernel
theorem dX11_divisor_21 : decode cX11_divisor 21 = .ok (.iload_n 2, 1) := by decide +kernel
theorem dX11_divisor_22 : decode cX11_divisor 22 = .ok (.ireturn, 1) := by decide +kernel
theorem dX11_isMap_0 : decode cX11_isMap 0 = .ok (.iload_n 1, 1) := by decide +kernel
theorem dX11_isMap_1 : decode cX11_isMap 1 = .ok (.iconst 0, 1) := by decide +kernel
theorem dX11_isMap_2 : decode cX11_isMap 2 = .ok (.aload_n 0, 1) := by decide +kernel
theorem dX11_isMap_3 : decode cX11_isMap 3 = .ok (.invokevirtual 384, 3) := by decide +kernel
theorem dX11_isMap_6 : decode cX11_isMap 6 = .ok (.iconst 1, 1) := by decide +kernel
theorem dX11_isMap_7 : decode cX11_isMap 7 = .ok (.isub, 1) := by decide +kernel
theorem dX11_isMap_8 : decode cX11_isMap 8 = .ok (.invokestatic 387, 3) := by decide +kernel
theorem dX11_isMap_11 : decode cX11_isMap 11 = .ok (.ireturn, 1) := by decide +kernel
theorem dX11_isFood_0 : decode cX11_isFood 0 = .ok (.iload_n 1, 1) := by decide +kernel
theorem dX11_isFood_1 : decode cX11_isFood 1 = .ok (.iconst 0, 1) := by decide +kernel
theorem dX11_isFood_2 : decode cX11_isFood 2 = .ok (.aload_n 0, 1) := by decide +kernel
theorem dX11_isFood_3 : decode cX11_isFood 3 = .ok (.getfield 20, 3) := by decide +kernel
theorem dX11_isFood_6 : decode cX11_isFood 6 = .ok (.aload_n 0, 1) := by decide +kernel
theorem dX11_isFood_7 : decode cX11_isFood 7 = .ok (.getfield 273, 3) := by decide +kernel
theorem dX11_isFood_10 : decode cX11_isFood 10 = .ok (.iaload, 1) := by decide +kernel
theorem dX11_isFood_11 : decode cX11_isFood 11 = .ok (.iconst 1, 1) := by decide +kernel
theorem dX11_isFood_12 : decode cX11_isFood 12 = .ok (.isub, 1) := by decide +kernel
theorem dX11_isFood_13 : decode cX11_isFood 13 = .ok (.invokestatic 387, 3) := by decide +kernel
theorem dX11_isFood_16 : decode cX11_isFood 16 = .ok (.ireturn, 1) := by decide +kernel
theorem dX11_isPlace_0 : decode cX11_isPlace 0 = .ok (.iload_n 1, 1) := by decide +kernel
theorem dX11_isPlace_1 : decode cX11_isPlace 1 = .ok (.iconst 0, 1) := by decide +kernel
theorem dX11_isPlace_2 : decode cX11_isPlace 2 = .ok (.aload_n 0, 1) := by decide +kernel
theorem dX11_isPlace_3 : decode cX11_isPlace 3 = .ok (.getfield 27, 3) := by decide +kernel
theorem dX11_isPlace_6 : decode cX11_isPlace 6 = .ok (.aload_n 0, 1) := by decide +kernel
theorem dX11_isPlace_7 : decode cX11_isPlace 7 = .ok (.getfield 273, 3) := by decide +kernel
theorem dX11_isPlace_10 : decode cX11_isPlace 10 = .ok (.iaload, 1) := by decide +kernel
theorem dX11_isPlace_11 : decode cX11_isPlace 11 = .ok (.iconst 1, 1) := by decide +kernel
theorem dX11_isPlace_12 : decode cX11_isPlace 12 = .ok (.isub, 1) := by decide +kernel
theorem dX11_isPlace_13 : decode cX11_isPlace 13 = .ok (.invokestatic 387, 3) := by decide +kernel
theorem dX11_isPlace_16 : decode cX11_isPlace 16 = .ok (.ireturn, 1) := by decide +kernel
theorem dX11_isOn_0 : decode cX11_isOn 0 = .ok (.aload_n 0, 1) := by decide +kernel
theorem dX11_isOn_1 : decode cX11_isOn 1 = .ok (.getfield 63, 3) := by decide +kernel
theorem dX11_isOn_4 : decode cX11_isOn 4 = .ok (.bipush 8, 2) := by decide +kernel
theorem dX11_isOn_6 : decode cX11_isOn 6 = .ok (.aload_n 0, 1) := by decide +kernel
theorem dX11_isOn_7 : decode cX11_isOn 7 = .ok (.getfield 273, 3) := by decide +kernel
theorem dX11_isOn_10 : decode cX11_isOn 10 = .ok (.imul, 1) := by decide +kernel
theorem dX11_isOn_11 : decode cX11_isOn 11 = .ok (.iload_n 1, 1) := by decide +kernel
theorem dX11_isOn_12 : decode cX11_isOn 12 = .ok (.iadd, 1) := by decide +kernel
theorem dX11_isOn_13 : decode cX11_isOn 13 = .ok (.iaload, 1) := by decide +kernel
theorem dX11_isOn_14 : decode cX11_isOn 14 = .ok (.iload_n 2, 1) := by decide +kernel
theorem dX11_isOn_15 : decode cX11_isOn 15 = .ok (.invokestatic 391, 3) := by decide +kernel
theorem dX11_isOn_18 : decode cX11_isOn 18 = .ok (.ireturn, 1) := by decide +kernel
theorem dX11_likedBy_0 : decode cX11_likedBy 0 = .ok (.aload_n 0, 1) := by decide +kernel
theorem dX11_likedBy_1 : decode cX11_likedBy 1 = .ok (.getfield 66, 3) := by decide +kernel
theorem dX11_likedBy_4 : decode cX11_likedBy 4 = .ok (.iconst 3, 1) := by decide +kernel
theorem dX11_likedBy_5 : decode cX11_likedBy 5 = .ok (.iconst 4, 1) := by decide +kernel
theorem dX11_likedBy_6 : decode cX11_likedBy 6 = .ok (.aload_n 0, 1) := by decide +kernel
theorem dX11_likedBy_7 : decode cX11_likedBy 7 = .ok (.getfield 273, 3) := by decide +kernel
theorem dX11_likedBy_10 : decode cX11_likedBy 10 = .ok (.imul, 1) := by decide +kernel
theorem dX11_likedBy_11 : decode cX11_likedBy 11 = .ok (.iload_n 1, 1) := by decide +kernel
theorem dX11_likedBy_12 : decode cX11_likedBy 12 = .ok (.iadd, 1) := by decide +kernel
theorem dX11_likedBy_13 : decode cX11_likedBy 13 = .ok (.imul, 1) := by decide +kernel
theorem dX11_likedBy_14 : decode cX11_likedBy 14 = .ok (.iload_n 2, 1) := by decide +kernel
theorem dX11_likedBy_15 : decode cX11_likedBy 15 = .ok (.iadd, 1) := by decide +kernel
theorem dX11_likedBy_16 : decode cX11_likedBy 16 = .ok (.iaload, 1) := by decide +kernel
theorem dX11_likedBy_17 : decode cX11_likedBy 17 = .ok (.ireturn, 1) := by decide +kernel
theorem dX11_doesBite_0 : decode cX11_doesBite 0 = .ok (.aload_n 0, 1) := by decide +kernel
theorem dX11_doesBite_1 : decode cX11_doesBite 1 = .ok (.getfield 54, 3) := by decide +kernel
theorem dX11_doesBite_4 : decode cX11_doesBite 4 = .ok (.iconst 4, 1) := by decide +kernel
theorem dX11_doesBite_5 : decode cX11_doesBite 5 = .ok (.aload_n 0, 1) := by decide +kernel
theorem dX11_doesBite_6 : decode cX11_doesBite 6 = .ok (.getfield 273, 3) := by decide +kernel
theorem dX11_doesBite_9 : decode cX11_doesBite 9 = .ok (.imul, 1) := by decide +kernel
theorem dX11_doesBite_10 : decode cX11_doesBite 10 = .ok (.iload_n 1, 1) := by decide +kernel
theorem dX11_doesBite_11 : decode cX11_doesBite 11 = .ok (.iadd, 1) := by decide +kernel
theorem dX11_doesBite_12 : decode cX11_doesBite 12 = .ok (.iaload, 1) := by decide +kernel
theorem dX11_doesBite_13 : decode cX11_doesBite 13 = .ok (.iload_n 2, 1) := by decide +kernel
theorem dX11_doesBite_14 : decode cX11_doesBite 14 = .ok (.invokestatic 391, 3) := by decide +kernel
theorem dX11_doesBite_17 : decode cX11_doesBite 17 = .ok (.ifCond .eq 56, 3) := by decide +kernel
theorem dX11_doesBite_20 : decode cX11_doesBite 20 = .ok (.aload_n 0, 1) := by decide +kernel
theorem dX11_doesBite_21 : decode cX11_doesBite 21 = .ok (.getfield 113, 3) := by decide +kernel
theorem dX11_doesBite_24 : decode cX11_doesBite 24 = .ok (.bipush 35, 2) := by decide +kernel
theorem dX11_doesBite_26 : decode cX11_doesBite 26 = .ok (.iload_n 1, 1) := by decide +kernel
theorem dX11_doesBite_27 : decode cX11_doesBite 27 = .ok (.iadd, 1) := by decide +kernel
theorem dX11_doesBite_28 : decode cX11_doesBite 28 = .ok (.iaload, 1) := by decide +kernel
theorem dX11_doesBite_29 : decode cX11_doesBite 29 = .ok (.aload_n 0, 1) := by decide +kernel
theorem dX11_doesBite_30 : decode cX11_doesBite 30 = .ok (.getfield 113, 3) := by decide +kernel
theorem dX11_doesBite_33 : decode cX11_doesBite 33 = .ok (.bipush 35, 2) := by decide +kernel
theorem dX11_doesBite_35 : decode cX11_doesBite 35 = .ok (.iload_n 2, 1) := by decide +kernel
theorem dX11_doesBite_36 : decode cX11_doesBite 36 = .ok (.iadd, 1) := by decide +kernel
theorem dX11_doesBite_37 : decode cX11_doesBite 37 = .ok (.iaload, 1) := by decide +kernel
theorem dX11_doesBite_38 : decode cX11_doesBite 38 = .ok (.if_icmp .ne 35, 3) := by decide +kernel
theorem dX11_doesBite_41 : decode cX11_doesBite 41 = .ok (.aload_n 0, 1) := by decide +kernel
theorem dX11_doesBite_42 : decode cX11_doesBite 42 = .ok (.getfield 113, 3) := by decide +kernel
theorem dX11_doesBite_45 : decode cX11_doesBite 45 = .ok (.bipush 39, 2) := by decide +kernel
theorem dX11_doesBite_47 : decode cX11_doesBite 47 = .ok (.iaload, 1) := by decide +kernel
theorem dX11_doesBite_48 : decode cX11_doesBite 48 = .ok (.iload_n 1, 1) := by decide +kernel
theorem dX11_doesBite_49 : decode cX11_doesBite 49 = .ok (.invokestatic 391, 3) := by decide +kernel
theorem dX11_doesBite_52 : decode cX11_doesBite 52 = .ok (.ifCond .ne 21, 3) := by decide +kernel
theorem dX11_doesBite_55 : decode cX11_doesBite 55 = .ok (.aload_n 0, 1) := by decide +kernel
theorem dX11_doesBite_56 : decode cX11_doesBite 56 = .ok (.getfield 113, 3) := by decide +kernel
theorem dX11_doesBite_59 : decode cX11_doesBite 59 = .ok (.bipush 39, 2) := by decide +kernel
theorem dX11_doesBite_61 : decode cX11_doesBite 61 = .ok (.iaload, 1) := by decide +kernel
theorem dX11_doesBite_62 : decode cX11_doesBite 62 = .ok (.iload_n 2, 1) := by decide +kernel
theorem dX11_doesBite_63 : decode cX11_doesBite 63 = .ok (.invokestatic 391, 3) := by decide +kernel
theorem dX11_doesBite_66 : decode cX11_doesBite 66 = .ok (.ifCond .ne 7, 3) := by decide +kernel
theorem dX11_doesBite_69 : decode cX11_doesBite 69 = .ok (.iconst 1, 1) := by decide +kernel
theorem dX11_doesBite_70 : decode cX11_doesBite 70 = .ok (.goto 4, 3) := by decide +kernel
theorem dX11_doesBite_73 : decode cX11_doesBite 73 = .ok (.iconst 0, 1) := by decide +kernel
theorem dX11_doesBite_74 : decode cX11_doesBite 74 = .ok (.ireturn, 1) := by decide +kernel
theorem dX11_hungerOf_0 : decode cX11_hungerOf 0 = .ok (.aload_n 0, 1) := by decide +kernel
theorem dX11_hungerOf_1 : decode cX11_hungerOf 1 = .ok (.getfield 113, 3) := by decide +kernel
theorem dX11_hungerOf_4 : decode cX11_hungerOf 4 = .ok (.bipush 39, 2) := by decide +kernel
theorem dX11_hungerOf_6 : decode cX11_hungerOf 6 = .ok (.iaload, 1) := by decide +kernel
theorem dX11_hungerOf_7 : decode cX11_hungerOf 7 = .ok (.iload_n 1, 1) := by decide +kernel
theorem dX11_hungerOf_8 : decode cX11_hungerOf 8 = .ok (.invokestatic 391, 3) := by decide +kernel
theorem dX11_hungerOf_11 : decode cX11_hungerOf 11 = .ok (.ifCond .eq 5, 3) := by decide +kernel
theorem dX11_hungerOf_14 : decode cX11_hungerOf 14 = .ok (.iconst 0, 1) := by decide +kernel
theorem dX11_hungerOf_15 : decode cX11_hungerOf 15 = .ok (.ireturn, 1) := by decide +kernel
theorem dX11_hungerOf_16 : decode cX11_hungerOf 16 = .ok (.aload_n 0, 1) := by decide +kernel
theorem dX11_hungerOf_17 : decode cX11_hungerOf 17 = .ok (.aload_n 0, 1) := by decide +kernel
theorem dX11_hungerOf_18 : decode cX11_hungerOf 18 = .ok (.getfield 45, 3) := by decide +kernel
theorem dX11_hungerOf_21 : decode cX11_hungerOf 21 = .ok (.iconst 4, 1) := by decide +kernel
theorem dX11_hungerOf_22 : decode cX11_hungerOf 22 = .ok (.aload_n 0, 1) := by decide +kernel
theorem dX11_hungerOf_23 : decode cX11_hungerOf 23 = .ok (.getfield 273, 3) := by decide +kernel
theorem dX11_hungerOf_26 : decode cX11_hungerOf 26 = .ok (.imul, 1) := by decide +kernel
theorem dX11_hungerOf_27 : decode cX11_hungerOf 27 = .ok (.iload_n 1, 1) := by decide +kernel
theorem dX11_hungerOf_28 : decode cX11_hungerOf 28 = .ok (.iadd, 1) := by decide +kernel
theorem dX11_hungerOf_29 : decode cX11_hungerOf 29 = .ok (.iaload, 1) := by decide +kernel
theorem dX11_hungerOf_30 : decode cX11_hungerOf 30 = .ok (.putfield 362, 3) := by decide +kernel
theorem dX11_hungerOf_33 : decode cX11_hungerOf 33 = .ok (.aload_n 0, 1) := by decide +kernel
theorem dX11_hungerOf_34 : decode cX11_hungerOf 34 = .ok (.aload_n 0, 1) := by decide +kernel
theorem dX11_hungerOf_35 : decode cX11_hungerOf 35 = .ok (.getfield 113, 3) := by decide +kernel
theorem dX11_hungerOf_38 : decode cX11_hungerOf 38 = .ok (.bipush 31, 2) := by decide +kernel
theorem dX11_hungerOf_40 : decode cX11_hungerOf 40 = .ok (.iload_n 1, 1) := by decide +kernel
theorem dX11_hungerOf_41 : decode cX11_hungerOf 41 = .ok (.iadd, 1) := by decide +kernel
theorem dX11_hungerOf_42 : decode cX11_hungerOf 42 = .ok (.iaload, 1) := by decide +kernel
theorem dX11_hungerOf_43 : decode cX11_hungerOf 43 = .ok (.putfield 365, 3) := by decide +kernel
theorem dX11_hungerOf_46 : decode cX11_hungerOf 46 = .ok (.aload_n 0, 1) := by decide +kernel
theorem dX11_hungerOf_47 : decode cX11_hungerOf 47 = .ok (.iconst 0, 1) := by decide +kernel
theorem dX11_hungerOf_48 : decode cX11_hungerOf 48 = .ok (.putfield 368, 3) := by decide +kernel
theorem dX11_hungerOf_51 : decode cX11_hungerOf 51 = .ok (.aload_n 0, 1) := by decide +kernel
theorem dX11_hungerOf_52 : decode cX11_hungerOf 52 = .ok (.iconst 0, 1) := by decide +kernel
theorem dX11_hungerOf_53 : decode cX11_hungerOf 53 = .ok (.putfield 371, 3) := by decide +kernel
theorem dX11_hungerOf_56 : decode cX11_hungerOf 56 = .ok (.aload_n 0, 1) := by decide +kernel
theorem dX11_hungerOf_57 : decode cX11_hungerOf 57 = .ok (.iconst 0, 1) := by decide +kernel
theorem dX11_hungerOf_58 : decode cX11_hungerOf 58 = .ok (.putfield 374, 3) := by decide +kernel
theorem dX11_hungerOf_61 : decode cX11_hungerOf 61 = .ok (.aload_n 0, 1) := by decide +kernel
theorem dX11_hungerOf_62 : decode cX11_hungerOf 62 = .ok (.iload_n 1, 1) := by decide +kernel
theorem dX11_hungerOf_63 : decode cX11_hungerOf 63 = .ok (.invokevirtual 407, 3) := by decide +kernel
theorem dX11_hungerOf_66 : decode cX11_hungerOf 66 = .ok (.istore_n 2, 1) := by decide +kernel
theorem dX11_hungerOf_67 : decode cX11_hungerOf 67 = .ok (.iload_n 2, 1) := by decide +kernel
theorem dX11_hungerOf_68 : decode cX11_hungerOf 68 = .ok (.ifCond .ge 7, 3) := by decide +kernel
theorem dX11_hungerOf_71 : decode cX11_hungerOf 71 = .ok (.iconst 0, 1) := by decide +kernel
theorem dX11_hungerOf_72 : decode cX11_hungerOf 72 = .ok (.goto 15, 3) := by decide +kernel
theorem dX11_hungerOf_75 : decode cX11_hungerOf 75 = .ok (.iload_n 2, 1) := by decide +kernel
theorem dX11_hungerOf_76 : decode cX11_hungerOf 76 = .ok (.bipush 99, 2) := by decide +kernel
theorem dX11_hungerOf_78 : decode cX11_hungerOf 78 = .ok (.if_icmp .le 8, 3) := by decide +kernel
theorem dX11_hungerOf_81 : decode cX11_hungerOf 81 = .ok (.bipush 99, 2) := by decide +kernel
theorem dX11_hungerOf_83 : decode cX11_hungerOf 83 = .ok (.goto 4, 3) := by decide +kernel
theorem dX11_hungerOf_86 : decode cX11_hungerOf 86 = .ok (.iload_n 2, 1) := by decide +kernel
theorem dX11_hungerOf_87 : decode cX11_hungerOf 87 = .ok (.istore_n 2, 1) := by decide +kernel
theorem dX11_hungerOf_88 : decode cX11_hungerOf 88 = .ok (.iconst 0, 1) := by decide +kernel
theorem dX11_hungerOf_89 : decode cX11_hungerOf 89 = .ok (.istore_n 3, 1) := by decide +kernel
theorem dX11_hungerOf_90 : decode cX11_hungerOf 90 = .ok (.iload_n 3, 1) := by decide +kernel
theorem dX11_hungerOf_91 : decode cX11_hungerOf 91 = .ok (.aload_n 0, 1) := by decide +kernel
theorem dX11_hungerOf_92 : decode cX11_hungerOf 92 = .ok (.invokevirtual 384, 3) := by decide +kernel
theorem dX11_hungerOf_95 : decode cX11_hungerOf 95 = .ok (.if_icmp .ge 26, 3) := by decide +kernel
theorem dX11_hungerOf_98 : decode cX11_hungerOf 98 = .ok (.iload_n 2, 1) := by decide +kernel
theorem dX11_hungerOf_99 : decode cX11_hungerOf 99 = .ok (.aload_n 0, 1) := by decide +kernel
theorem dX11_hungerOf_100 : decode cX11_hungerOf 100 = .ok (.iload_n 1, 1) := by decide +kernel
theorem dX11_hungerOf_101 : decode cX11_hungerOf 101 = .ok (.iload_n 3, 1) := by decide +kernel
theorem dX11_hungerOf_102 : decode cX11_hungerOf 102 = .ok (.invokevirtual 410, 3) := by decide +kernel
theorem dX11_hungerOf_105 : decode cX11_hungerOf 105 = .ok (.ifCond .eq 7, 3) := by decide +kernel
theorem dX11_hungerOf_108 : decode cX11_hungerOf 108 = .ok (.iconst 2, 1) := by decide +kernel
theorem dX11_hungerOf_109 : decode cX11_hungerOf 109 = .ok (.goto 4, 3) := by decide +kernel
theorem dX11_hungerOf_112 : decode cX11_hungerOf 112 = .ok (.iconst 0, 1) := by decide +kernel
theorem dX11_hungerOf_113 : decode cX11_hungerOf 113 = .ok (.iadd, 1) := by decide +kernel
theorem dX11_hungerOf_114 : decode cX11_hungerOf 114 = .ok (.istore_n 2, 1) := by decide +kernel
theorem dX11_hungerOf_115 : decode cX11_hungerOf 115 = .ok (.iinc 3 1, 3) := by decide +kernel
theorem dX11_hungerOf_118 : decode cX11_hungerOf 118 = .ok (.goto (-28), 3) := by decide +kernel
theorem dX11_hungerOf_121 : decode cX11_hungerOf 121 = .ok (.iload_n 2, 1) := by decide +kernel
theorem dX11_hungerOf_122 : decode cX11_hungerOf 122 = .ok (.bipush 99, 2) := by decide +kernel
theorem dX11_hungerOf_124 : decode cX11_hungerOf 124 = .ok (.if_icmp .le 8, 3) := by decide +kernel
theorem dX11_hungerOf_127 : decode cX11_hungerOf 127 = .ok (.bipush 99, 2) := by decide +kernel
theorem dX11_hungerOf_129 : decode cX11_hungerOf 129 = .ok (.goto 4, 3) := by decide +kernel
theorem dX11_hungerOf_132 : decode cX11_hungerOf 132 = .ok (.iload_n 2, 1) := by decide +kernel
theorem dX11_hungerOf_133 : decode cX11_hungerOf 133 = .ok (.ireturn, 1) := by decide +kernel
theorem dX11_tasteOf_0 : decode cX11_tasteOf 0 = .ok (.aload_n 0, 1) := by decide +kernel
theorem dX11_tasteOf_1 : decode cX11_tasteOf 1 = .ok (.getfield 78, 3) := by decide +kernel
theorem dX11_tasteOf_4 : decode cX11_tasteOf 4 = .ok (.aload_n 0, 1) := by decide +kernel
theorem dX11_tasteOf_5 : decode cX11_tasteOf 5 = .ok (.getfield 273, 3) := by decide +kernel
theorem dX11_tasteOf_8 : decode cX11_tasteOf 8 = .ok (.baload, 1) := by decide +kernel
theorem dX11_tasteOf_9 : decode cX11_tasteOf 9 = .ok (.ifCond .ne 13, 3) := by decide +kernel
theorem dX11_tasteOf_12 : decode cX11_tasteOf 12 = .ok (.aload_n 0, 1) := by decide +kernel
theorem dX11_tasteOf_13 : decode cX11_tasteOf 13 = .ok (.getfield 113, 3) := by decide +kernel
theorem dX11_tasteOf_16 : decode cX11_tasteOf 16 = .ok (.bipush 15, 2) := by decide +kernel
theorem dX11_tasteOf_18 : decode cX11_tasteOf 18 = .ok (.iload_n 1, 1) := by decide +kernel
theorem dX11_tasteOf_19 : decode cX11_tasteOf 19 = .ok (.iadd, 1) := by decide +kernel
theorem dX11_tasteOf_20 : decode cX11_tasteOf 20 = .ok (.iaload, 1) := by decide +kernel
theorem dX11_tasteOf_21 : decode cX11_tasteOf 21 = .ok (.ireturn, 1) := by decide +kernel
theorem dX11_tasteOf_22 : decode cX11_tasteOf 22 = .ok (.aload_n 0, 1) := by decide +kernel
theorem dX11_tasteOf_23 : decode cX11_tasteOf 23 = .ok (.aload_n 0, 1) := by decide +kernel
theorem dX11_tasteOf_24 : decode cX11_tasteOf 24 = .ok (.getfield 45, 3) := by decide +kernel
theorem dX11_tasteOf_27 : decode cX11_tasteOf 27 = .ok (.iconst 4, 1) := by decide +kernel
theorem dX11_tasteOf_28 : decode cX11_tasteOf 28 = .ok (.aload_n 0, 1) := by decide +kernel
theorem dX11_tasteOf_29 : decode cX11_tasteOf 29 = .ok (.getfield 273, 3) := by decide +kernel
theorem dX11_tasteOf_32 : decode cX11_tasteOf 32 = .ok (.imul, 1) := by decide +kernel
theorem dX11_tasteOf_33 : decode cX11_tasteOf 33 = .ok (.iload_n 2, 1) := by decide +kernel
theorem dX11_tasteOf_34 : decode cX11_tasteOf 34 = .ok (.iadd, 1) := by decide +kernel
theorem dX11_tasteOf_35 : decode cX11_tasteOf 35 = .ok (.iaload, 1) := by decide +kernel
theorem dX11_tasteOf_36 : decode cX11_tasteOf 36 = .ok (.putfield 362, 3) := by decide +kernel
theorem dX11_tasteOf_39 : decode cX11_tasteOf 39 = .ok (.aload_n 0, 1) := by decide +kernel
theorem dX11_tasteOf_40 : decode cX11_tasteOf 40 = .ok (.aload_n 0, 1) := by decide +kernel
theorem dX11_tasteOf_41 : decode cX11_tasteOf 41 = .ok (.getfield 113, 3) := by decide +kernel
theorem dX11_tasteOf_44 : decode cX11_tasteOf 44 = .ok (.bipush 31, 2) := by decide +kernel
theorem dX11_tasteOf_46 : decode cX11_tasteOf 46 = .ok (.iload_n 2, 1) := by decide +kernel
theorem dX11_tasteOf_47 : decode cX11_tasteOf 47 = .ok (.iadd, 1) := by decide +kernel
theorem dX11_tasteOf_48 : decode cX11_tasteOf 48 = .ok (.iaload, 1) := by decide +kernel
theorem dX11_tasteOf_49 : decode cX11_tasteOf 49 = .ok (.putfield 365, 3) := by decide +kernel
theorem dX11_tasteOf_52 : decode cX11_tasteOf 52 = .ok (.aload_n 0, 1) := by decide +kernel
theorem dX11_tasteOf_53 : decode cX11_tasteOf 53 = .ok (.aload_n 0, 1) := by decide +kernel
theorem dX11_tasteOf_54 : decode cX11_tasteOf 54 = .ok (.getfield 113, 3) := by decide +kernel
theorem dX11_tasteOf_57 : decode cX11_tasteOf 57 = .ok (.bipush 15, 2) := by decide +kernel
theorem dX11_tasteOf_59 : decode cX11_tasteOf 59 = .ok (.iload_n 1, 1) := by decide +kernel
theorem dX11_tasteOf_60 : decode cX11_tasteOf 60 = .ok (.iadd, 1) := by decide +kernel
theorem dX11_tasteOf_61 : decode cX11_tasteOf 61 = .ok (.iaload, 1) := by decide +kernel
theorem dX11_tasteOf_62 : decode cX11_tasteOf 62 = .ok (.putfield 368, 3) := by decide +kernel
theorem dX11_tasteOf_65 : decode cX11_tasteOf 65 = .ok (.aload_n 0, 1) := by decide +kernel
theorem dX11_tasteOf_66 : decode cX11_tasteOf 66 = .ok (.aload_n 0, 1) := by decide +kernel
theorem dX11_tasteOf_67 : decode cX11_tasteOf 67 = .ok (.getfield 60, 3) := by decide +kernel
theorem dX11_tasteOf_70 : decode cX11_tasteOf 70 = .ok (.bipush 8, 2) := by decide +kernel
theorem dX11_tasteOf_72 : decode cX11_tasteOf 72 = .ok (.aload_n 0, 1) := by decide +kernel
theorem dX11_tasteOf_73 : decode cX11_tasteOf 73 = .ok (.getfield 273, 3) := by decide +kernel
theorem dX11_tasteOf_76 : decode cX11_tasteOf 76 = .ok (.imul, 1) := by decide +kernel
theorem dX11_tasteOf_77 : decode cX11_tasteOf 77 = .ok (.iload_n 1, 1) := by decide +kernel
theorem dX11_tasteOf_78 : decode cX11_tasteOf 78 = .ok (.iadd, 1) := by decide +kernel
theorem dX11_tasteOf_79 : decode cX11_tasteOf 79 = .ok (.iaload, 1) := by decide +kernel
theorem dX11_tasteOf_80 : decode cX11_tasteOf 80 = .ok (.putfield 371, 3) := by decide +kernel
theorem dX11_tasteOf_83 : decode cX11_tasteOf 83 = .ok (.aload_n 0, 1) := by decide +kernel
theorem dX11_tasteOf_84 : decode cX11_tasteOf 84 = .ok (.aload_n 0, 1) := by decide +kernel
theorem dX11_tasteOf_85 : decode cX11_tasteOf 85 = .ok (.getfield 113, 3) := by decide +kernel
theorem dX11_tasteOf_88 : decode cX11_tasteOf 88 = .ok (.bipush 23, 2) := by decide +kernel
theorem dX11_tasteOf_90 : decode cX11_tasteOf 90 = .ok (.iload_n 1, 1) := by decide +kernel
theorem dX11_tasteOf_91 : decode cX11_tasteOf 91 = .ok (.iadd, 1) := by decide +kernel
theorem dX11_tasteOf_92 : decode cX11_tasteOf 92 = .ok (.iaload, 1) := by decide +kernel
theorem dX11_tasteOf_93 : decode cX11_tasteOf 93 = .ok (.putfield 374, 3) := by decide +kernel
theorem dX11_tasteOf_96 : decode cX11_tasteOf 96 = .ok (.aload_n 0, 1) := by decide +kernel
theorem dX11_tasteOf_97 : decode cX11_tasteOf 97 = .ok (.iconst 4, 1) := by decide +kernel
theorem dX11_tasteOf_98 : decode cX11_tasteOf 98 = .ok (.invokevirtual 407, 3) := by decide +kernel
theorem dX11_tasteOf_101 : decode cX11_tasteOf 101 = .ok (.ireturn, 1) := by decide +kernel
theorem dX11_givenTo_0 : decode cX11_givenTo 0 = .ok (.iconst 0, 1) := by decide +kernel
theorem dX11_givenTo_1 : decode cX11_givenTo 1 = .ok (.istore_n 2, 1) := by decide +kernel
theorem dX11_givenTo_2 : decode cX11_givenTo 2 = .ok (.iconst 0, 1) := by decide +kernel
theorem dX11_givenTo_3 : decode cX11_givenTo 3 = .ok (.istore_n 3, 1) := by decide +kernel
theorem dX11_givenTo_4 : decode cX11_givenTo 4 = .ok (.iload_n 3, 1) := by decide +kernel
theorem dX11_givenTo_5 : decode cX11_givenTo 5 = .ok (.aload_n 0, 1) := by decide +kernel
theorem dX11_givenTo_6 : decode cX11_givenTo 6 = .ok (.getfield 20, 3) := by decide +kernel
theorem dX11_givenTo_9 : decode cX11_givenTo 9 = .ok (.aload_n 0, 1) := by decide +kernel
theorem dX11_givenTo_10 : decode cX11_givenTo 10 = .ok (.getfield 273, 3) := by decide +kernel
theorem dX11_givenTo_13 : decode cX11_givenTo 13 = .ok (.iaload, 1) := by decide +kernel
theorem dX11_givenTo_14 : decode cX11_givenTo 14 = .ok (.if_icmp .ge 31, 3) := by decide +kernel
theorem dX11_givenTo_17 : decode cX11_givenTo 17 = .ok (.iload_n 2, 1) := by decide +kernel
theorem dX11_givenTo_18 : decode cX11_givenTo 18 = .ok (.aload_n 0, 1) := by decide +kernel
theorem dX11_givenTo_19 : decode cX11_givenTo 19 = .ok (.getfield 113, 3) := by decide +kernel
theorem dX11_givenTo_22 : decode cX11_givenTo 22 = .ok (.iconst 3, 1) := by decide +kernel
theorem dX11_givenTo_23 : decode cX11_givenTo 23 = .ok (.iconst 3, 1) := by decide +kernel
theorem dX11_givenTo_24 : decode cX11_givenTo 24 = .ok (.iload_n 1, 1) := by decide +kernel
theorem dX11_givenTo_25 : decode cX11_givenTo 25 = .ok (.imul, 1) := by decide +kernel
theorem dX11_givenTo_26 : decode cX11_givenTo 26 = .ok (.iadd, 1) := by decide +kernel
theorem dX11_givenTo_27 : decode cX11_givenTo 27 = .ok (.iload_n 3, 1) := by decide +kernel
theorem dX11_givenTo_28 : decode cX11_givenTo 28 = .ok (.iadd, 1) := by decide +kernel
theorem dX11_givenTo_29 : decode cX11_givenTo 29 = .ok (.iaload, 1) := by decide +kernel
theorem dX11_givenTo_30 : decode cX11_givenTo 30 = .ok (.aload_n 0, 1) := by decide +kernel
theorem dX11_givenTo_31 : decode cX11_givenTo 31 = .ok (.iload_n 1, 1) := by decide +kernel
theorem dX11_givenTo_32 : decode cX11_givenTo 32 = .ok (.iload_n 3, 1) := by decide +kernel
theorem dX11_givenTo_33 : decode cX11_givenTo 33 = .ok (.invokevirtual 413, 3) := by decide +kernel
theorem dX11_givenTo_36 : decode cX11_givenTo 36 = .ok (.imul, 1) := by decide +kernel
theorem dX11_givenTo_37 : decode cX11_givenTo 37 = .ok (.iadd, 1) := by decide +kernel
theorem dX11_givenTo_38 : decode cX11_givenTo 38 = .ok (.istore_n 2, 1) := by decide +kernel
theorem dX11_givenTo_39 : decode cX11_givenTo 39 = .ok (.iinc 3 1, 3) := by decide +kernel
theorem dX11_givenTo_42 : decode cX11_givenTo 42 = .ok (.goto (-38), 3) := by decide +kernel
theorem dX11_givenTo_45 : decode cX11_givenTo 45 = .ok (.iload_n 2, 1) := by decide +kernel
theorem dX11_givenTo_46 : decode cX11_givenTo 46 = .ok (.ireturn, 1) := by decide +kernel
theorem dX11_bite_0 : decode cX11_bite 0 = .ok (.iload_n 2, 1) := by decide +kernel
theorem dX11_bite_1 : decode cX11_bite 1 = .ok (.istore_n 3, 1) := by decide +kernel
theorem dX11_bite_2 : decode cX11_bite 2 = .ok (.iload_n 3, 1) := by decide +kernel
theorem dX11_bite_3 : decode cX11_bite 3 = .ok (.ifCond .le 177, 3) := by decide +kernel
theorem dX11_bite_6 : decode cX11_bite 6 = .ok (.iconst (-1), 1) := by decide +kernel
theorem dX11_bite_7 : decode cX11_bite 7 = .ok (.istore 4, 2) := by decide +kernel
theorem dX11_bite_9 : decode cX11_bite 9 = .ok (.iconst 0, 1) := by decide +kernel
theorem dX11_bite_10 : decode cX11_bite 10 = .ok (.istore 5, 2) := by decide +kernel
theorem dX11_bite_12 : decode cX11_bite 12 = .ok (.iconst 0, 1) := by decide +kernel
theorem dX11_bite_13 : decode cX11_bite 13 = .ok (.istore 6, 2) := by decide +kernel
theorem dX11_bite_15 : decode cX11_bite 15 = .ok (.iload 6, 2) := by decide +kernel
theorem dX11_bite_17 : decode cX11_bite 17 = .ok (.aload_n 0, 1) := by decide +kernel
theorem dX11_bite_18 : decode cX11_bite 18 = .ok (.getfield 27, 3) := by decide +kernel
theorem dX11_bite_21 : decode cX11_bite 21 = .ok (.aload_n 0, 1) := by decide +kernel
theorem dX11_bite_22 : decode cX11_bite 22 = .ok (.getfield 273, 3) := by decide +kernel
theorem dX11_bite_25 : decode cX11_bite 25 = .ok (.iaload, 1) := by decide +kernel
theorem dX11_bite_26 : decode cX11_bite 26 = .ok (.if_icmp .ge 67, 3) := by decide +kernel
theorem dX11_bite_29 : decode cX11_bite 29 = .ok (.aload_n 0, 1) := by decide +kernel
theorem dX11_bite_30 : decode cX11_bite 30 = .ok (.iload 6, 2) := by decide +kernel
theorem dX11_bite_32 : decode cX11_bite 32 = .ok (.iload_n 1, 1) := by decide +kernel
theorem dX11_bite_33 : decode cX11_bite 33 = .ok (.invokevirtual 416, 3) := by decide +kernel
theorem dX11_bite_36 : decode cX11_bite 36 = .ok (.ifCond .eq 51, 3) := by decide +kernel
theorem dX11_bite_39 : decode cX11_bite 39 = .ok (.aload_n 0, 1) := by decide +kernel
theorem dX11_bite_40 : decode cX11_bite 40 = .ok (.getfield 113, 3) := by decide +kernel
theorem dX11_bite_43 : decode cX11_bite 43 = .ok (.bipush 15, 2) := by decide +kernel
theorem dX11_bite_45 : decode cX11_bite 45 = .ok (.iload 6, 2) := by decide +kernel
theorem dX11_bite_47 : decode cX11_bite 47 = .ok (.iadd, 1) := by decide +kernel
theorem dX11_bite_48 : decode cX11_bite 48 = .ok (.iaload, 1) := by decide +kernel
theorem dX11_bite_49 : decode cX11_bite 49 = .ok (.ifCond .ne 6, 3) := by decide +kernel
theorem dX11_bite_52 : decode cX11_bite 52 = .ok (.goto 35, 3) := by decide +kernel
theorem dX11_bite_55 : decode cX11_bite 55 = .ok (.aload_n 0, 1) := by decide +kernel
theorem dX11_bite_56 : decode cX11_bite 56 = .ok (.iload 6, 2) := by decide +kernel
theorem dX11_bite_58 : decode cX11_bite 58 = .ok (.iload_n 1, 1) := by decide +kernel
theorem dX11_bite_59 : decode cX11_bite 59 = .ok (.invokevirtual 419, 3) := by decide +kernel
theorem dX11_bite_62 : decode cX11_bite 62 = .ok (.istore 7, 2) := by decide +kernel
theorem dX11_bite_64 : decode cX11_bite 64 = .ok (.iload 4, 2) := by decide +kernel
theorem dX11_bite_66 : decode cX11_bite 66 = .ok (.ifCond .lt 13, 3) := by decide +kernel
theorem dX11_bite_69 : decode cX11_bite 69 = .ok (.iload 7, 2) := by decide +kernel
theorem dX11_bite_71 : decode cX11_bite 71 = .ok (.iload 5, 2) := by decide +kernel
theorem dX11_bite_73 : decode cX11_bite 73 = .ok (.if_icmp .gt 6, 3) := by decide +kernel
theorem dX11_bite_76 : decode cX11_bite 76 = .ok (.goto 11, 3) := by decide +kernel
theorem dX11_bite_79 : decode cX11_bite 79 = .ok (.iload 6, 2) := by decide +kernel
theorem dX11_bite_81 : decode cX11_bite 81 = .ok (.istore 4, 2) := by decide +kernel
theorem dX11_bite_83 : decode cX11_bite 83 = .ok (.iload 7, 2) := by decide +kernel
theorem dX11_bite_85 : decode cX11_bite 85 = .ok (.istore 5, 2) := by decide +kernel
theorem dX11_bite_87 : decode cX11_bite 87 = .ok (.iinc 6 1, 3) := by decide +kernel
theorem dX11_bite_90 : decode cX11_bite 90 = .ok (.goto (-75), 3) := by decide +kernel
theorem dX11_bite_93 : decode cX11_bite 93 = .ok (.iload 4, 2) := by decide +kernel
theorem dX11_bite_95 : decode cX11_bite 95 = .ok (.ifCond .ge 4, 3) := by decide +kernel
theorem dX11_bite_98 : decode cX11_bite 98 = .ok (.return_, 1) := by decide +kernel
theorem dX11_bite_99 : decode cX11_bite 99 = .ok (.iload_n 3, 1) := by decide +kernel
theorem dX11_bite_100 : decode cX11_bite 100 = .ok (.aload_n 0, 1) := by decide +kernel
theorem dX11_bite_101 : decode cX11_bite 101 = .ok (.getfield 113, 3) := by decide +kernel
theorem dX11_bite_104 : decode cX11_bite 104 = .ok (.bipush 15, 2) := by decide +kernel
theorem dX11_bite_106 : decode cX11_bite 106 = .ok (.iload 4, 2) := by decide +kernel
theorem dX11_bite_108 : decode cX11_bite 108 = .ok (.iadd, 1) := by decide +kernel
theorem dX11_bite_109 : decode cX11_bite 109 = .ok (.iaload, 1) := by decide +kernel
theorem dX11_bite_110 : decode cX11_bite 110 = .ok (.if_icmp .ge 7, 3) := by decide +kernel
theorem dX11_bite_113 : decode cX11_bite 113 = .ok (.iload_n 3, 1) := by decide +kernel
theorem dX11_bite_114 : decode cX11_bite 114 = .ok (.goto 13, 3) := by decide +kernel
theorem dX11_bite_117 : decode cX11_bite 117 = .ok (.aload_n 0, 1) := by decide +kernel
theorem dX11_bite_118 : decode cX11_bite 118 = .ok (.getfield 113, 3) := by decide +kernel
theorem dX11_bite_121 : decode cX11_bite 121 = .ok (.bipush 15, 2) := by decide +kernel
theorem dX11_bite_123 : decode cX11_bite 123 = .ok (.iload 4, 2) := by decide +kernel
theorem dX11_bite_125 : decode cX11_bite 125 = .ok (.iadd, 1) := by decide +kernel
theorem dX11_bite_126 : decode cX11_bite 126 = .ok (.iaload, 1) := by decide +kernel
theorem dX11_bite_127 : decode cX11_bite 127 = .ok (.istore 6, 2) := by decide +kernel
theorem dX11_bite_129 : decode cX11_bite 129 = .ok (.aload_n 0, 1) := by decide +kernel
theorem dX11_bite_130 : decode cX11_bite 130 = .ok (.getfield 113, 3) := by decide +kernel
theorem dX11_bite_133 : decode cX11_bite 133 = .ok (.bipush 15, 2) := by decide +kernel
theorem dX11_bite_135 : decode cX11_bite 135 = .ok (.iload 4, 2) := by decide +kernel
theorem dX11_bite_137 : decode cX11_bite 137 = .ok (.iadd, 1) := by decide +kernel
theorem dX11_bite_138 : decode cX11_bite 138 = .ok (.dup2, 1) := by decide +kernel
theorem dX11_bite_139 : decode cX11_bite 139 = .ok (.iaload, 1) := by decide +kernel
theorem dX11_bite_140 : decode cX11_bite 140 = .ok (.iload 6, 2) := by decide +kernel
theorem dX11_bite_142 : decode cX11_bite 142 = .ok (.isub, 1) := by decide +kernel
theorem dX11_bite_143 : decode cX11_bite 143 = .ok (.iastore, 1) := by decide +kernel
theorem dX11_bite_144 : decode cX11_bite 144 = .ok (.aload_n 0, 1) := by decide +kernel
theorem dX11_bite_145 : decode cX11_bite 145 = .ok (.getfield 113, 3) := by decide +kernel
theorem dX11_bite_148 : decode cX11_bite 148 = .ok (.bipush 23, 2) := by decide +kernel
theorem dX11_bite_150 : decode cX11_bite 150 = .ok (.iload 4, 2) := by decide +kernel
theorem dX11_bite_152 : decode cX11_bite 152 = .ok (.iadd, 1) := by decide +kernel
theorem dX11_bite_153 : decode cX11_bite 153 = .ok (.dup2, 1) := by decide +kernel
theorem dX11_bite_154 : decode cX11_bite 154 = .ok (.iaload, 1) := by decide +kernel
theorem dX11_bite_155 : decode cX11_bite 155 = .ok (.iconst 1, 1) := by decide +kernel
theorem dX11_bite_156 : decode cX11_bite 156 = .ok (.iadd, 1) := by decide +kernel
theorem dX11_bite_157 : decode cX11_bite 157 = .ok (.iastore, 1) := by decide +kernel
theorem dX11_bite_158 : decode cX11_bite 158 = .ok (.aload_n 0, 1) := by decide +kernel
theorem dX11_bite_159 : decode cX11_bite 159 = .ok (.getfield 113, 3) := by decide +kernel
theorem dX11_bite_162 : decode cX11_bite 162 = .ok (.bipush 31, 2) := by decide +kernel
theorem dX11_bite_164 : decode cX11_bite 164 = .ok (.iload_n 1, 1) := by decide +kernel
theorem dX11_bite_165 : decode cX11_bite 165 = .ok (.iadd, 1) := by decide +kernel
theorem dX11_bite_166 : decode cX11_bite 166 = .ok (.dup2, 1) := by decide +kernel
theorem dX11_bite_167 : decode cX11_bite 167 = .ok (.iaload, 1) := by decide +kernel
theorem dX11_bite_168 : decode cX11_bite 168 = .ok (.iload 6, 2) := by decide +kernel
theorem dX11_bite_170 : decode cX11_bite 170 = .ok (.iadd, 1) := by decide +kernel
theorem dX11_bite_171 : decode cX11_bite 171 = .ok (.iastore, 1) := by decide +kernel
theorem dX11_bite_172 : decode cX11_bite 172 = .ok (.iload_n 3, 1) := by decide +kernel
theorem dX11_bite_173 : decode cX11_bite 173 = .ok (.iload 6, 2) := by decide +kernel
theorem dX11_bite_175 : decode cX11_bite 175 = .ok (.isub, 1) := by decide +kernel
theorem dX11_bite_176 : decode cX11_bite 176 = .ok (.istore_n 3, 1) := by decide +kernel
theorem dX11_bite_177 : decode cX11_bite 177 = .ok (.goto (-175), 3) := by decide +kernel
theorem dX11_bite_180 : decode cX11_bite 180 = .ok (.return_, 1) := by decide +kernel
theorem dX11_grow_0 : decode cX11_grow 0 = .ok (.iconst (-1), 1) := by decide +kernel
theorem dX11_grow_1 : decode cX11_grow 1 = .ok (.istore_n 3, 1) := by decide +kernel
theorem dX11_grow_2 : decode cX11_grow 2 = .ok (.iconst 0, 1) := by decide +kernel
theorem dX11_grow_3 : decode cX11_grow 3 = .ok (.istore 4, 2) := by decide +kernel
theorem dX11_grow_5 : decode cX11_grow 5 = .ok (.iload 4, 2) := by decide +kernel
theorem dX11_grow_7 : decode cX11_grow 7 = .ok (.aload_n 0, 1) := by decide +kernel
theorem dX11_grow_8 : decode cX11_grow 8 = .ok (.getfield 27, 3) := by decide +kernel
theorem dX11_grow_11 : decode cX11_grow 11 = .ok (.aload_n 0, 1) := by decide +kernel
theorem dX11_grow_12 : decode cX11_grow 12 = .ok (.getfield 273, 3) := by decide +kernel
theorem dX11_grow_15 : decode cX11_grow 15 = .ok (.iaload, 1) := by decide +kernel
theorem dX11_grow_16 : decode cX11_grow 16 = .ok (.if_icmp .ge 48, 3) := by decide +kernel
theorem dX11_grow_19 : decode cX11_grow 19 = .ok (.aload_n 0, 1) := by decide +kernel
theorem dX11_grow_20 : decode cX11_grow 20 = .ok (.iload 4, 2) := by decide +kernel
theorem dX11_grow_22 : decode cX11_grow 22 = .ok (.iload_n 1, 1) := by decide +kernel
theorem dX11_grow_23 : decode cX11_grow 23 = .ok (.invokevirtual 416, 3) := by decide +kernel
theorem dX11_grow_26 : decode cX11_grow 26 = .ok (.ifCond .eq 32, 3) := by decide +kernel
theorem dX11_grow_29 : decode cX11_grow 29 = .ok (.iload_n 3, 1) := by decide +kernel
theorem dX11_grow_30 : decode cX11_grow 30 = .ok (.ifCond .lt 25, 3) := by decide +kernel
theorem dX11_grow_33 : decode cX11_grow 33 = .ok (.aload_n 0, 1) := by decide +kernel
theorem dX11_grow_34 : decode cX11_grow 34 = .ok (.getfield 113, 3) := by decide +kernel
theorem dX11_grow_37 : decode cX11_grow 37 = .ok (.bipush 15, 2) := by decide +kernel
theorem dX11_grow_39 : decode cX11_grow 39 = .ok (.iload 4, 2) := by decide +kernel
theorem dX11_grow_41 : decode cX11_grow 41 = .ok (.iadd, 1) := by decide +kernel
theorem dX11_grow_42 : decode cX11_grow 42 = .ok (.iaload, 1) := by decide +kernel
theorem dX11_grow_43 : decode cX11_grow 43 = .ok (.aload_n 0, 1) := by decide +kernel
theorem dX11_grow_44 : decode cX11_grow 44 = .ok (.getfield 113, 3) := by decide +kernel
theorem dX11_grow_47 : decode cX11_grow 47 = .ok (.bipush 15, 2) := by decide +kernel
theorem dX11_grow_49 : decode cX11_grow 49 = .ok (.iload_n 3, 1) := by decide +kernel
theorem dX11_grow_50 : decode cX11_grow 50 = .ok (.iadd, 1) := by decide +kernel
theorem dX11_grow_51 : decode cX11_grow 51 = .ok (.iaload, 1) := by decide +kernel
theorem dX11_grow_52 : decode cX11_grow 52 = .ok (.if_icmp .ge 6, 3) := by decide +kernel
theorem dX11_grow_55 : decode cX11_grow 55 = .ok (.iload 4, 2) := by decide +kernel
theorem dX11_grow_57 : decode cX11_grow 57 = .ok (.istore_n 3, 1) := by decide +kernel
theorem dX11_grow_58 : decode cX11_grow 58 = .ok (.iinc 4 1, 3) := by decide +kernel
theorem dX11_grow_61 : decode cX11_grow 61 = .ok (.goto (-56), 3) := by decide +kernel
theorem dX11_grow_64 : decode cX11_grow 64 = .ok (.iload_n 3, 1) := by decide +kernel
theorem dX11_grow_65 : decode cX11_grow 65 = .ok (.ifCond .ge 4, 3) := by decide +kernel
theorem dX11_grow_68 : decode cX11_grow 68 = .ok (.return_, 1) := by decide +kernel
theorem dX11_grow_69 : decode cX11_grow 69 = .ok (.aload_n 0, 1) := by decide +kernel
theorem dX11_grow_70 : decode cX11_grow 70 = .ok (.getfield 113, 3) := by decide +kernel
theorem dX11_grow_73 : decode cX11_grow 73 = .ok (.bipush 15, 2) := by decide +kernel
theorem dX11_grow_75 : decode cX11_grow 75 = .ok (.iload_n 3, 1) := by decide +kernel
theorem dX11_grow_76 : decode cX11_grow 76 = .ok (.iadd, 1) := by decide +kernel
theorem dX11_grow_77 : decode cX11_grow 77 = .ok (.aload_n 0, 1) := by decide +kernel
theorem dX11_grow_78 : decode cX11_grow 78 = .ok (.getfield 113, 3) := by decide +kernel
theorem dX11_grow_81 : decode cX11_grow 81 = .ok (.bipush 15, 2) := by decide +kernel
theorem dX11_grow_83 : decode cX11_grow 83 = .ok (.iload_n 3, 1) := by decide +kernel
theorem dX11_grow_84 : decode cX11_grow 84 = .ok (.iadd, 1) := by decide +kernel
theorem dX11_grow_85 : decode cX11_grow 85 = .ok (.iaload, 1) := by decide +kernel
theorem dX11_grow_86 : decode cX11_grow 86 = .ok (.iload_n 2, 1) := by decide +kernel
theorem dX11_grow_87 : decode cX11_grow 87 = .ok (.iadd, 1) := by decide +kernel
theorem dX11_grow_88 : decode cX11_grow 88 = .ok (.bipush 60, 2) := by decide +kernel
theorem dX11_grow_90 : decode cX11_grow 90 = .ok (.if_icmp .le 8, 3) := by decide +kernel
theorem dX11_grow_93 : decode cX11_grow 93 = .ok (.bipush 60, 2) := by decide +kernel
theorem dX11_grow_95 : decode cX11_grow 95 = .ok (.goto 14, 3) := by decide +kernel
theorem dX11_grow_98 : decode cX11_grow 98 = .ok (.aload_n 0, 1) := by decide +kernel
theorem dX11_grow_99 : decode cX11_grow 99 = .ok (.getfield 113, 3) := by decide +kernel
theorem dX11_grow_102 : decode cX11_grow 102 = .ok (.bipush 15, 2) := by decide +kernel
theorem dX11_grow_104 : decode cX11_grow 104 = .ok (.iload_n 3, 1) := by decide +kernel
theorem dX11_grow_105 : decode cX11_grow 105 = .ok (.iadd, 1) := by decide +kernel
theorem dX11_grow_106 : decode cX11_grow 106 = .ok (.iaload, 1) := by decide +kernel
theorem dX11_grow_107 : decode cX11_grow 107 = .ok (.iload_n 2, 1) := by decide +kernel
theorem dX11_grow_108 : decode cX11_grow 108 = .ok (.iadd, 1) := by decide +kernel
theorem dX11_grow_109 : decode cX11_grow 109 = .ok (.iastore, 1) := by decide +kernel
theorem dX11_grow_110 : decode cX11_grow 110 = .ok (.return_, 1) := by decide +kernel
theorem dX11_eat_0 : decode cX11_eat 0 = .ok (.iconst 0, 1) := by decide +kernel
theorem dX11_eat_1 : decode cX11_eat 1 = .ok (.istore_n 1, 1) := by decide +kernel
theorem dX11_eat_2 : decode cX11_eat 2 = .ok (.iload_n 1, 1) := by decide +kernel
theorem dX11_eat_3 : decode cX11_eat 3 = .ok (.aload_n 0, 1) := by decide +kernel
theorem dX11_eat_4 : decode cX11_eat 4 = .ok (.invokevirtual 384, 3) := by decide +kernel
theorem dX11_eat_7 : decode cX11_eat 7 = .ok (.if_icmp .ge 68, 3) := by decide +kernel
theorem dX11_eat_10 : decode cX11_eat 10 = .ok (.aload_n 0, 1) := by decide +kernel
theorem dX11_eat_11 : decode cX11_eat 11 = .ok (.iload_n 1, 1) := by decide +kernel
theorem dX11_eat_12 : decode cX11_eat 12 = .ok (.invokevirtual 422, 3) := by decide +kernel
theorem dX11_eat_15 : decode cX11_eat 15 = .ok (.aload_n 0, 1) := by decide +kernel
theorem dX11_eat_16 : decode cX11_eat 16 = .ok (.iload_n 1, 1) := by decide +kernel
theorem dX11_eat_17 : decode cX11_eat 17 = .ok (.invokevirtual 425, 3) := by decide +kernel
theorem dX11_eat_20 : decode cX11_eat 20 = .ok (.isub, 1) := by decide +kernel
theorem dX11_eat_21 : decode cX11_eat 21 = .ok (.istore_n 2, 1) := by decide +kernel
theorem dX11_eat_22 : decode cX11_eat 22 = .ok (.iload_n 2, 1) := by decide +kernel
theorem dX11_eat_23 : decode cX11_eat 23 = .ok (.ifCond .le 9, 3) := by decide +kernel
theorem dX11_eat_26 : decode cX11_eat 26 = .ok (.aload_n 0, 1) := by decide +kernel
theorem dX11_eat_27 : decode cX11_eat 27 = .ok (.iload_n 1, 1) := by decide +kernel
theorem dX11_eat_28 : decode cX11_eat 28 = .ok (.iload_n 2, 1) := by decide +kernel
theorem dX11_eat_29 : decode cX11_eat 29 = .ok (.invokevirtual 428, 3) := by decide +kernel
theorem dX11_eat_32 : decode cX11_eat 32 = .ok (.iload_n 2, 1) := by decide +kernel
theorem dX11_eat_33 : decode cX11_eat 33 = .ok (.ifCond .ge 10, 3) := by decide +kernel
theorem dX11_eat_36 : decode cX11_eat 36 = .ok (.aload_n 0, 1) := by decide +kernel
theorem dX11_eat_37 : decode cX11_eat 37 = .ok (.iload_n 1, 1) := by decide +kernel
theorem dX11_eat_38 : decode cX11_eat 38 = .ok (.iload_n 2, 1) := by decide +kernel
theorem dX11_eat_39 : decode cX11_eat 39 = .ok (.ineg, 1) := by decide +kernel
theorem dX11_eat_40 : decode cX11_eat 40 = .ok (.invokevirtual 431, 3) := by decide +kernel
theorem dX11_eat_43 : decode cX11_eat 43 = .ok (.iconst 0, 1) := by decide +kernel
theorem dX11_eat_44 : decode cX11_eat 44 = .ok (.istore_n 3, 1) := by decide +kernel
theorem dX11_eat_45 : decode cX11_eat 45 = .ok (.iload_n 3, 1) := by decide +kernel
theorem dX11_eat_46 : decode cX11_eat 46 = .ok (.iconst 3, 1) := by decide +kernel
theorem dX11_eat_47 : decode cX11_eat 47 = .ok (.if_icmp .ge 22, 3) := by decide +kernel
theorem dX11_eat_50 : decode cX11_eat 50 = .ok (.aload_n 0, 1) := by decide +kernel
theorem dX11_eat_51 : decode cX11_eat 51 = .ok (.getfield 113, 3) := by decide +kernel
theorem dX11_eat_54 : decode cX11_eat 54 = .ok (.iconst 3, 1) := by decide +kernel
theorem dX11_eat_55 : decode cX11_eat 55 = .ok (.iconst 3, 1) := by decide +kernel
theorem dX11_eat_56 : decode cX11_eat 56 = .ok (.iload_n 1, 1) := by decide +kernel
theorem dX11_eat_57 : decode cX11_eat 57 = .ok (.imul, 1) := by decide +kernel
theorem dX11_eat_58 : decode cX11_eat 58 = .ok (.iadd, 1) := by decide +kernel
theorem dX11_eat_59 : decode cX11_eat 59 = .ok (.iload_n 3, 1) := by decide +kernel
theorem dX11_eat_60 : decode cX11_eat 60 = .ok (.iadd, 1) := by decide +kernel
theorem dX11_eat_61 : decode cX11_eat 61 = .ok (.iconst 0, 1) := by decide +kernel
theorem dX11_eat_62 : decode cX11_eat 62 = .ok (.iastore, 1) := by decide +kernel
theorem dX11_eat_63 : decode cX11_eat 63 = .ok (.iinc 3 1, 3) := by decide +kernel
theorem dX11_eat_66 : decode cX11_eat 66 = .ok (.goto (-21), 3) := by decide +kernel
theorem dX11_eat_69 : decode cX11_eat 69 = .ok (.iinc 1 1, 3) := by decide +kernel
theorem dX11_eat_72 : decode cX11_eat 72 = .ok (.goto (-70), 3) := by decide +kernel
theorem dX11_eat_75 : decode cX11_eat 75 = .ok (.return_, 1) := by decide +kernel
theorem dX11_goYear_0 : decode cX11_goYear 0 = .ok (.aload_n 0, 1) := by decide +kernel
theorem dX11_goYear_1 : decode cX11_goYear 1 = .ok (.invokevirtual 434, 3) := by decide +kernel
theorem dX11_goYear_4 : decode cX11_goYear 4 = .ok (.aload_n 0, 1) := by decide +kernel
theorem dX11_goYear_5 : decode cX11_goYear 5 = .ok (.getfield 113, 3) := by decide +kernel
theorem dX11_goYear_8 : decode cX11_goYear 8 = .ok (.bipush 42, 2) := by decide +kernel
theorem dX11_goYear_10 : decode cX11_goYear 10 = .ok (.sipush 137, 3) := by decide +kernel
theorem dX11_goYear_13 : decode cX11_goYear 13 = .ok (.aload_n 0, 1) := by decide +kernel
theorem dX11_goYear_14 : decode cX11_goYear 14 = .ok (.getfield 113, 3) := by decide +kernel
theorem dX11_goYear_17 : decode cX11_goYear 17 = .ok (.bipush 42, 2) := by decide +kernel
theorem dX11_goYear_19 : decode cX11_goYear 19 = .ok (.iaload, 1) := by decide +kernel
theorem dX11_goYear_20 : decode cX11_goYear 20 = .ok (.imul, 1) := by decide +kernel
theorem dX11_goYear_21 : decode cX11_goYear 21 = .ok (.bipush 71, 2) := by decide +kernel
theorem dX11_goYear_23 : decode cX11_goYear 23 = .ok (.iadd, 1) := by decide +kernel
theorem dX11_goYear_24 : decode cX11_goYear 24 = .ok (.sipush 1000, 3) := by decide +kernel
theorem dX11_goYear_27 : decode cX11_goYear 27 = .ok (.irem, 1) := by decide +kernel
theorem dX11_goYear_28 : decode cX11_goYear 28 = .ok (.iastore, 1) := by decide +kernel
theorem dX11_goYear_29 : decode cX11_goYear 29 = .ok (.aload_n 0, 1) := by decide +kernel
theorem dX11_goYear_30 : decode cX11_goYear 30 = .ok (.getfield 113, 3) := by decide +kernel
theorem dX11_goYear_33 : decode cX11_goYear 33 = .ok (.bipush 41, 2) := by decide +kernel
theorem dX11_goYear_35 : decode cX11_goYear 35 = .ok (.aload_n 0, 1) := by decide +kernel
theorem dX11_goYear_36 : decode cX11_goYear 36 = .ok (.getfield 113, 3) := by decide +kernel
theorem dX11_goYear_39 : decode cX11_goYear 39 = .ok (.bipush 42, 2) := by decide +kernel
theorem dX11_goYear_41 : decode cX11_goYear 41 = .ok (.iaload, 1) := by decide +kernel
theorem dX11_goYear_42 : decode cX11_goYear 42 = .ok (.bipush 10, 2) := by decide +kernel
theorem dX11_goYear_44 : decode cX11_goYear 44 = .ok (.idiv, 1) := by decide +kernel
theorem dX11_goYear_45 : decode cX11_goYear 45 = .ok (.iconst 2, 1) := by decide +kernel
theorem dX11_goYear_46 : decode cX11_goYear 46 = .ok (.irem, 1) := by decide +kernel
theorem dX11_goYear_47 : decode cX11_goYear 47 = .ok (.iastore, 1) := by decide +kernel
theorem dX11_goYear_48 : decode cX11_goYear 48 = .ok (.aload_n 0, 1) := by decide +kernel
theorem dX11_goYear_49 : decode cX11_goYear 49 = .ok (.getfield 113, 3) := by decide +kernel
theorem dX11_goYear_52 : decode cX11_goYear 52 = .ok (.bipush 40, 2) := by decide +kernel
theorem dX11_goYear_54 : decode cX11_goYear 54 = .ok (.dup2, 1) := by decide +kernel
theorem dX11_goYear_55 : decode cX11_goYear 55 = .ok (.iaload, 1) := by decide +kernel
theorem dX11_goYear_56 : decode cX11_goYear 56 = .ok (.iconst 1, 1) := by decide +kernel
theorem dX11_goYear_57 : decode cX11_goYear 57 = .ok (.iadd, 1) := by decide +kernel
theorem dX11_goYear_58 : decode cX11_goYear 58 = .ok (.iastore, 1) := by decide +kernel
theorem dX11_goYear_59 : decode cX11_goYear 59 = .ok (.return_, 1) := by decide +kernel
set_option maxRecDepth 100000 in
theorem m_X11_has (l : Launch) (D : va_G) (cT : Nat → ClassId) (T : Nat → Option Nat) (q : Nat → Int) (hT : tokm T) (hq : qkm q) (y0 : Int32) (j0 : IV y0 (-2147483648) 2147483647) (y1 : Int32) (j1 : IV y1 (-2147483648) 2147483647) : th_Met l D cT T (km q) yX11_has cX11_has 2 (some .boolean) (rmk 0 0) [.int y0, .int y1] (th_RP 0 1 (fun r => (r.toInt = 0 → ¬ ((y0 >>> (y1 &&& 31)) &&& 1 = 1)))) [] := by
  refine th_start (by decide) (Nat.le_of_ble_eq_true rfl) ?_
  intro p e s m below meth c ls S hK hH hr hlocks hnm hl
  have hx := S.1
  have hb := S.2.1
  have hl : lv_has ls 2 [(0, .int y0), (1, .int y1)] := hl
  have J14_s0_0 : ∀ (H : Heap) (locs : List Loc) (ls : Array Slot), ((0 : Int) = 0 → ¬ ((y0 >>> (y1 &&& 31)) &&& 1 = 1)) → th_H D cT T (km q) H → va_S (th_A T []) s.heap H locs → lv_has ls 2 [] → W p l e (rmk 0 0) s m [.int y0, .int y1].toArray below meth c H locs 0 0 (MQ below (th_Q D cT T (km q) (th_RP 0 1 (fun r => (r.toInt = 0 → ¬ ((y0 >>> (y1 &&& 31)) &&& 1 = 1)))) []) [.int y0, .int y1].toArray s 0 0 (th_A T [])) (F0 m 14 ls [.int 0]) := by
    intro H locs ls v14_inv0 hH hS hl
    exact th_zret S hK hH hS hr hlocks (iv_w (iv_c (by decide) : IV 0 0 0) (by decide)) (th_RP.i (iv_w (iv_c (by decide) : IV 0 0 0) (by decide)) (show (0 : Int) = 0 → ¬ ((y0 >>> (y1 &&& 31)) &&& 1 = 1) by first | assumption | (first | (intro z; exact absurd z (by decide)) | (intro _; rw [← hbit]; assumption)))) dX11_has_14
  have J14_s0_1 : ∀ (H : Heap) (locs : List Loc) (ls : Array Slot), ((1 : Int) = 0 → ¬ ((y0 >>> (y1 &&& 31)) &&& 1 = 1)) → th_H D cT T (km q) H → va_S (th_A T []) s.heap H locs → lv_has ls 2 [] → W p l e (rmk 0 0) s m [.int y0, .int y1].toArray below meth c H locs 0 0 (MQ below (th_Q D cT T (km q) (th_RP 0 1 (fun r => (r.toInt = 0 → ¬ ((y0 >>> (y1 &&& 31)) &&& 1 = 1)))) []) [.int y0, .int y1].toArray s 0 0 (th_A T [])) (F0 m 14 ls [.int 1]) := by
    intro H locs ls v14_inv0 hH hS hl
    exact th_zret S hK hH hS hr hlocks (iv_w (iv_c (by decide) : IV 1 1 1) (by decide)) (th_RP.i (iv_w (iv_c (by decide) : IV 1 1 1) (by decide)) (show (1 : Int) = 0 → ¬ ((y0 >>> (y1 &&& 31)) &&& 1 = 1) by first | assumption | (first | (intro z; exact absurd z (by decide)) | (intro _; rw [← hbit]; assumption)))) dX11_has_14
  have J0 : ∀ (H : Heap) (locs : List Loc) (ls : Array Slot), th_H D cT T (km q) H → va_S (th_A T []) s.heap H locs → lv_has ls 2 [(0, .int y0), (1, .int y1)] → W p l e (rmk 0 0) s m [.int y0, .int y1].toArray below meth c H locs 0 0 (MQ below (th_Q D cT T (km q) (th_RP 0 1 (fun r => (r.toInt = 0 → ¬ ((y0 >>> (y1 &&& 31)) &&& 1 = 1)))) []) [.int y0, .int y1].toArray s 0 0 (th_A T [])) (F0 m 0 ls []) := by
    intro H locs ls hH hS hl
    refine lv_iload_n hx hb dX11_has_0 rfl (lv_at hl 0 rfl) ?_
    refine lv_iload_n hx hb dX11_has_1 rfl (lv_at hl 1 rfl) ?_
    refine lv_ishr hx hb dX11_has_2 ?_
    refine lv_topi (fun x1 ex1 => ?_)
    have ix1 := iv_top x1
    refine lv_iconst (v := 1) hx hb dX11_has_3 (by decide) ?_
    refine lv_iand hx hb dX11_has_4 ?_
    refine lv_topi (fun x2 ex2 => ?_)
    have ix2 : IV x2 0 1 := by rw [ex2]; exact iv_and (h2 := 1) (iv_w (iv_c (by decide) : IV 1 1 1) (by decide)) (by decide)
    refine lv_iconst (v := 1) hx hb dX11_has_5 (by decide) ?_
    have hbit : x2 = (y0 >>> (y1 &&& 31)) &&& 1 := by subst_vars; rfl
    refine lv_icmp_ne (tgt := 13) hx hb dX11_has_6 (by decide) (fun c3 => ?_) (fun c3 => ?_)
    · skip
      have rlc3 : x2.toInt ≠ (1 : Int) := iv_ne c3
      have ir4 : IV x2 0 0 := iv_cutH ix2 (iv_c (by decide) : IV 1 1 1) c3 (by decide)
      have ir4a := ir4.1; have ir4b := ir4.2
      refine lv_iconst (v := 0) hx hb dX11_has_13 (by decide) ?_
      exact J14_s0_0 H locs ls (show (0 : Int) = 0 → ¬ ((y0 >>> (y1 &&& 31)) &&& 1 = 1) by first | (intro z; exact absurd z (by decide)) | (intro _; rw [← hbit]; assumption)) hH hS (lv_sub hl [] rfl)
    · skip
      have rlc3 : x2.toInt = (1 : Int) := congrArg Int32.toInt c3
      have ir5 : IV x2 1 1 := ⟨(iv_eL c3 (iv_c (by decide) : IV 1 1 1)).1, ix2.2⟩
      have ir5a := ir5.1; have ir5b := ir5.2
      refine lv_iconst (v := 1) hx hb dX11_has_9 (by decide) ?_
      refine lv_goto (tgt := 14) hx hb dX11_has_10 (by decide) ?_
      exact J14_s0_1 H locs ls (show (1 : Int) = 0 → ¬ ((y0 >>> (y1 &&& 31)) &&& 1 = 1) by first | (intro z; exact absurd z (by decide)) | (intro _; rw [← hbit]; assumption)) hH hS (lv_sub hl [] rfl)
  exact J0 s.heap [] ls hH va_S.rf hl

set_option maxRecDepth 100000 in
theorem m_X11_bitsOf (l : Launch) (D : va_G) (cT : Nat → ClassId) (T : Nat → Option Nat) (q : Nat → Int) (hT : tokm T) (hq : qkm q) (y0 : Int32) (j0 : IV y0 (-2147483648) 2147483647) : th_Met l D cT T (km q) yX11_bitsOf cX11_bitsOf 3 (some .int) (rmk 0 0) [.int y0] (th_R T (some (.inl (-2147483648, 2147483647)))) [] := by
  refine th_start (by decide) (Nat.le_of_ble_eq_true rfl) ?_
  intro p e s m below meth c ls S hK hH hr hlocks hnm hl
  have hx := S.1
  have hb := S.2.1
  have hl : lv_has ls 3 [(0, .int y0)] := hl
  have J4 : ∀ (n : Nat) (H : Heap) (locs : List Loc) (ls : Array Slot) (v4_1 : Int32) (v4_2 : Int32), IV v4_1 (-2147483648) 2147483647 → IV v4_2 (-2147483648) 2147483647 → th_H D cT T (km q) H → va_S (th_A T []) s.heap H locs → lv_has ls 3 [(1, .int v4_1), (2, .int v4_2)] → v4_2.toBitVec.toNat < n → W p l e (rmk 0 0) s m [.int y0].toArray below meth c H locs 0 0 (MQ below (th_Q D cT T (km q) (th_R T (some (.inl (-2147483648, 2147483647)))) []) [.int y0].toArray s 0 0 (th_A T [])) (F0 m 4 ls []) := by
    intro n
    induction n with
    | zero => intro H locs ls v4_1 v4_2 iv4_1 iv4_2 hH hS hl hn; exact absurd hn (Nat.not_lt_zero _)
    | succ n ih4 =>
      intro H locs ls v4_1 v4_2 iv4_1 iv4_2 hH hS hl hn4
      refine lv_iload_n hx hb dX11_bitsOf_4 rfl (lv_at hl 1 rfl) ?_
      refine lv_if_eq (tgt := 20) hx hb dX11_bitsOf_5 (by decide) (fun c1 => ?_) (fun c1 => ?_)
      · skip
        have rlc1 : v4_2.toInt = (0 : Int) := congrArg Int32.toInt c1
        have ir2 : IV v4_2 0 0 := iv_eL c1 (iv_c (by decide) : IV 0 0 0)
        have ir2a := ir2.1; have ir2b := ir2.2
        refine lv_iload_n hx hb dX11_bitsOf_20 rfl (lv_at hl 0 rfl) ?_
        exact th_iret S hK hH hS hr hlocks (th_R.i iv4_1) dX11_bitsOf_21
      · skip
        have rlc1 : v4_2.toInt ≠ (0 : Int) := iv_ne c1
        obtain ⟨x3, ex3⟩ : ∃ z : Int32, z = v4_1 + Int32.ofInt 1 := ⟨_, rfl⟩
        refine lv_iinc (v := x3) (lv' := [(1, .int x3), (2, .int v4_2)]) hx hb dX11_bitsOf_8 hl (k := 0) rfl (by rw [ex3]) (by decide) rfl (fun ls hl => ?_)
        have ix3 := iv_top x3
        refine lv_iload_n hx hb dX11_bitsOf_11 rfl (lv_at hl 1 rfl) ?_
        refine lv_iload_n hx hb dX11_bitsOf_12 rfl (lv_at hl 1 rfl) ?_
        refine lv_iconst (v := 1) hx hb dX11_bitsOf_13 (by decide) ?_
        refine lv_isub hx hb dX11_bitsOf_14 ?_
        refine lv_topi (fun x4 ex4 => ?_)
        have ix4 := iv_top x4
        refine lv_iand hx hb dX11_bitsOf_15 ?_
        refine lv_topi (fun x5 ex5 => ?_)
        have ix5 := iv_top x5
        refine lv_istore_n (lv' := [(2, .int x5), (1, .int x3)]) hx hb dX11_bitsOf_16 rfl hl (by decide) rfl (fun ls hl => ?_)
        refine lv_goto (tgt := 4) hx hb dX11_bitsOf_17 (by decide) ?_
        exact ih4 H locs ls x3 x5 ix3 ix5 hH hS (lv_sub hl [1, 0] rfl) (show x5.toBitVec.toNat < n by exact bits_lt (by assumption) ex5 (by assumption) hn4)
  have J0 : ∀ (H : Heap) (locs : List Loc) (ls : Array Slot), th_H D cT T (km q) H → va_S (th_A T []) s.heap H locs → lv_has ls 3 [(0, .int y0)] → W p l e (rmk 0 0) s m [.int y0].toArray below meth c H locs 0 0 (MQ below (th_Q D cT T (km q) (th_R T (some (.inl (-2147483648, 2147483647)))) []) [.int y0].toArray s 0 0 (th_A T [])) (F0 m 0 ls []) := by
    intro H locs ls hH hS hl
    refine lv_iconst (v := 0) hx hb dX11_bitsOf_0 (by decide) ?_
    refine lv_istore_n (lv' := [(1, .int 0), (0, .int y0)]) hx hb dX11_bitsOf_1 rfl hl (by decide) rfl (fun ls hl => ?_)
    refine lv_iload_n hx hb dX11_bitsOf_2 rfl (lv_at hl 1 rfl) ?_
    refine lv_istore_n (lv' := [(2, .int y0), (1, .int 0), (0, .int y0)]) hx hb dX11_bitsOf_3 rfl hl (by decide) rfl (fun ls hl => ?_)
    exact J4 (y0.toBitVec.toNat + 1) H locs ls 0 y0 (iv_top _) j0 hH hS (lv_sub hl [1, 0] rfl) (Nat.lt_succ_self _)
  exact J0 s.heap [] ls hH va_S.rf hl

set_option maxRecDepth 100000 in
theorem m_X11_divisor (l : Launch) (D : va_G) (cT : Nat → ClassId) (T : Nat → Option Nat) (q : Nat → Int) (hT : tokm T) (hq : qkm q) (y0 : Int32) (j0 : IV y0 1 2147483647) (y1 : Int32) (j1 : IV y1 (-2147483648) 2147483647) : th_Met l D cT T (km q) yX11_divisor cX11_divisor 5 (some .int) (rmk 0 0) [.int y0, .int y1] (th_R T (some (.inl (1, 2147483647)))) [] := by
  refine th_start (by decide) (Nat.le_of_ble_eq_true rfl) ?_
  intro p e s m below meth c ls S hK hH hr hlocks hnm hl
  have hx := S.1
  have hb := S.2.1
  have l1y0 := j0.1; have l2y0 := j0.2
  have hl : lv_has ls 5 [(0, .int y0), (1, .int y1)] := hl
  have J4 : ∀ (n : Nat) (H : Heap) (locs : List Loc) (ls : Array Slot) (v4_2 : Int32) (v4_3 : Int32), IV v4_2 1 2147483647 → IV v4_3 (-2147483648) 2147483647 → th_H D cT T (km q) H → va_S (th_A T []) s.heap H locs → lv_has ls 5 [(2, .int v4_2), (3, .int v4_3)] → v4_3.toInt.toNat < n → W p l e (rmk 0 0) s m [.int y0, .int y1].toArray below meth c H locs 0 0 (MQ below (th_Q D cT T (km q) (th_R T (some (.inl (1, 2147483647)))) []) [.int y0, .int y1].toArray s 0 0 (th_A T [])) (F0 m 4 ls []) := by
    intro n
    induction n with
    | zero => intro H locs ls v4_2 v4_3 iv4_2 iv4_3 hH hS hl hn; exact absurd hn (Nat.not_lt_zero _)
    | succ n ih4 =>
      intro H locs ls v4_2 v4_3 iv4_2 iv4_3 hH hS hl hn4
      have l1v4_2 := iv4_2.1; have l2v4_2 := iv4_2.2
      refine lv_iload_n hx hb dX11_divisor_4 rfl (lv_at hl 1 rfl) ?_
      refine lv_if_le (tgt := 21) hx hb dX11_divisor_5 (by decide) (fun c1 => ?_) (fun c1 => ?_)
      · skip
        have rlc1 : v4_3.toInt ≤ (0 : Int) := iv_le c1
        have ir2 : IV v4_3 (-2147483648) 0 := iv_vL iv4_3 (iv_c (by decide) : IV 0 0 0) (iv_le c1) (by decide)
        have ir2a := ir2.1; have ir2b := ir2.2
        refine lv_iload_n hx hb dX11_divisor_21 rfl (lv_at hl 0 rfl) ?_
        exact th_iret S hK hH hS hr hlocks (th_R.i iv4_2) dX11_divisor_22
      · skip
        have rlc1 : (0 : Int) < v4_3.toInt := iv_nle c1
        have ir3 : IV v4_3 1 2147483647 := iv_uR (iv_c (by decide) : IV 0 0 0) iv4_3 (iv_nle c1) (by decide)
        have ir3a := ir3.1; have ir3b := ir3.2
        refine lv_iload_n hx hb dX11_divisor_8 rfl (lv_at hl 0 rfl) ?_
        refine lv_iload_n hx hb dX11_divisor_9 rfl (lv_at hl 1 rfl) ?_
        refine lv_irem hx hb dX11_divisor_10 (iv_n0 ir3 (by decide)) ?_
        refine lv_topi (fun x4 ex4 => ?_)
        have ix4 : IV x4 0 2147483646 := by rw [ex4]; exact iv_rm (h1 := 2147483647) (iv_w iv4_2 (by decide)) ir3 (by decide)
        refine lv_istore (lv' := [(4, .int x4), (2, .int v4_2), (3, .int v4_3)]) hx hb dX11_divisor_11 hl (by decide) rfl (fun ls hl => ?_)
        refine lv_iload_n hx hb dX11_divisor_13 rfl (lv_at hl 2 rfl) ?_
        refine lv_istore_n (lv' := [(2, .int v4_3), (4, .int x4), (3, .int v4_3)]) hx hb dX11_divisor_14 rfl hl (by decide) rfl (fun ls hl => ?_)
        refine lv_iload hx hb dX11_divisor_15 (lv_at hl 1 rfl) ?_
        refine lv_istore_n (lv' := [(3, .int x4), (2, .int v4_3), (4, .int x4)]) hx hb dX11_divisor_17 rfl hl (by decide) rfl (fun ls hl => ?_)
        refine lv_goto (tgt := 4) hx hb dX11_divisor_18 (by decide) ?_
        exact ih4 H locs ls v4_3 x4 ir3 (iv_top _) hH hS (lv_sub hl [1, 0] rfl) (show x4.toInt.toNat < n by have z1 := div_lt ex4 (by omega); omega)
  have J0 : ∀ (H : Heap) (locs : List Loc) (ls : Array Slot), th_H D cT T (km q) H → va_S (th_A T []) s.heap H locs → lv_has ls 5 [(0, .int y0), (1, .int y1)] → W p l e (rmk 0 0) s m [.int y0, .int y1].toArray below meth c H locs 0 0 (MQ below (th_Q D cT T (km q) (th_R T (some (.inl (1, 2147483647)))) []) [.int y0, .int y1].toArray s 0 0 (th_A T [])) (F0 m 0 ls []) := by
    intro H locs ls hH hS hl
    refine lv_iload_n hx hb dX11_divisor_0 rfl (lv_at hl 0 rfl) ?_
    refine lv_istore_n (lv' := [(2, .int y0), (0, .int y0), (1, .int y1)]) hx hb dX11_divisor_1 rfl hl (by decide) rfl (fun ls hl => ?_)
    refine lv_iload_n hx hb dX11_divisor_2 rfl (lv_at hl 2 rfl) ?_
    refine lv_istore_n (lv' := [(3, .int y1), (2, .int y0), (0, .int y0), (1, .int y1)]) hx hb dX11_divisor_3 rfl hl (by decide) rfl (fun ls hl => ?_)
    exact J4 (y1.toInt.toNat + 1) H locs ls y0 y1 j0 j1 hH hS (lv_sub hl [1, 0] rfl) (Nat.lt_succ_self _)
  exact J0 s.heap [] ls hH va_S.rf hl

set_option maxRecDepth 100000 in
theorem m_X11_isMap (l : Launch) (D : va_G) (cT : Nat → ClassId) (T : Nat → Option Nat) (q : Nat → Int) (hT : tokm T) (hq : qkm q) (a0 : Nat) (t0 : T a0 = some 0) (y1 : Int32) (j1 : IV y1 (-2147483648) 2147483647) : th_Met l D cT T (km q) yX11_isMap cX11_isMap 2 (some .boolean) (rmk 1 22) [.ref a0, .int y1] (th_RP 0 1 (fun r => (r.toInt ≠ 0 → 0 ≤ y1.toInt ∧ y1.toInt < q 11))) [] := by
  refine th_start (by decide) (Nat.le_of_ble_eq_true rfl) ?_
  intro p e s m below meth c ls S hK hH hr hlocks hnm hl
  have hx := S.1
  have hb := S.2.1
  have hl : lv_has ls 2 [(0, .ref a0), (1, .int y1)] := hl
  have J0 : ∀ (H : Heap) (locs : List Loc) (ls : Array Slot), th_H D cT T (km q) H → va_S (th_A T []) s.heap H locs → lv_has ls 2 [(0, .ref a0), (1, .int y1)] → W p l e (rmk 1 22) s m [.ref a0, .int y1].toArray below meth c H locs 0 0 (MQ below (th_Q D cT T (km q) (th_RP 0 1 (fun r => (r.toInt ≠ 0 → 0 ≤ y1.toInt ∧ y1.toInt < q 11))) []) [.ref a0, .int y1].toArray s 0 0 (th_A T [])) (F0 m 0 ls []) := by
    intro H locs ls hH hS hl
    refine lv_iload_n hx hb dX11_isMap_0 rfl (lv_at hl 1 rfl) ?_
    refine lv_iconst (v := 0) hx hb dX11_isMap_1 (by decide) ?_
    refine lv_aload_n hx hb dX11_isMap_2 rfl (lv_at hl 0 rfl) ?_
    refine th_callVp (n := 0) (As := []) S hK hH hS (th_A.sub (by decide)) (m_X11_many l D cT T q hT hq a0 t0) gm_1229 gm_1226 gm_1228 gm_46 gm_124 (by decide +kernel) ⟨rfl, rfl, Nat.le_of_ble_eq_true rfl, Nat.le_of_ble_eq_true rfl⟩ t0 km_0 rfl rfl hl.1 rfl (Nat.le_of_ble_eq_true rfl) dX11_isMap_3 ⟨Nat.zero_le _, Nat.zero_le _⟩ (fun x1 H locs ix1 ox1 hH hS hF1 => ?_)
    have ox1 : x1.toInt = q 11 := ox1
    refine lv_iconst (v := 1) hx hb dX11_isMap_6 (by decide) ?_
    refine lv_isub hx hb dX11_isMap_7 ?_
    refine lv_topi (fun x2 ex2 => ?_)
    have ix2 : IV x2 (-1) 3 := by rw [ex2]; exact iv_sub ix1 (iv_c (by decide) : IV 1 1 1) (by decide)
    have ux2 : x2.toInt = x1.toInt - (1 : Int) := by rw [ex2]; exact iv_subE (by have z1 := (ix1).1; have z2 := (ix1).2; have z3 := ((iv_c (by decide) : IV 1 1 1)).1; have z4 := ((iv_c (by decide) : IV 1 1 1)).2; omega)
    refine th_callSp (n := 3) (As := [.int y1, .int 0, .int x2]) S hK hH hS (th_A.sub (by decide)) (m_X11_isIn l D cT T q hT hq (y1) j1 (0) (iv_top _) (x2) (iv_top _)) gm_1618 gm_1616 gm_1617 gm_124 (by decide +kernel) ⟨rfl, rfl, Nat.le_of_ble_eq_true rfl, Nat.le_of_ble_eq_true rfl⟩ rfl hl.1 rfl (Nat.le_of_ble_eq_true rfl) dX11_isMap_8 ⟨Nat.zero_le _, Nat.zero_le _⟩ (fun x3 H locs ix3 ox3 hH hS hF1 => ?_)
    obtain ⟨ox3_0, ox3_1⟩ := ox3
    have ox3_0 : x3.toInt ≠ 0 → (0 : Int) ≤ y1.toInt ∧ y1.toInt ≤ x2.toInt := ox3_0
    have ox3_1 : x3.toInt = 0 → y1.toInt < (0 : Int) ∨ x2.toInt < y1.toInt := ox3_1
    exact th_zret S hK hH hS hr hlocks ix3 (th_RP.i ix3 (show x3.toInt ≠ 0 → 0 ≤ y1.toInt ∧ y1.toInt < q 11 by first | assumption | (first | omega | (intro z; omega)))) dX11_isMap_11
  exact J0 s.heap [] ls hH va_S.rf hl

set_option maxRecDepth 100000 in
theorem m_X11_isFood (l : Launch) (D : va_G) (cT : Nat → ClassId) (T : Nat → Option Nat) (q : Nat → Int) (hT : tokm T) (hq : qkm q) (a0 : Nat) (t0 : T a0 = some 0) (y1 : Int32) (j1 : IV y1 (-2147483648) 2147483647) : th_Met l D cT T (km q) yX11_isFood cX11_isFood 2 (some .boolean) (rmk 1 22) [.ref a0, .int y1] (th_RP 0 1 (fun r => (r.toInt ≠ 0 → 0 ≤ y1.toInt ∧ y1.toInt < q 16))) [] := by
  refine th_start (by decide) (Nat.le_of_ble_eq_true rfl) ?_
  intro p e s m below meth c ls S hK hH hr hlocks hnm hl
  have hx := S.1
  have hb := S.2.1
  have hl : lv_has ls 2 [(0, .ref a0), (1, .int y1)] := hl
  have J0 : ∀ (H : Heap) (locs : List Loc) (ls : Array Slot), th_H D cT T (km q) H → va_S (th_A T []) s.heap H locs → lv_has ls 2 [(0, .ref a0), (1, .int y1)] → W p l e (rmk 1 22) s m [.ref a0, .int y1].toArray below meth c H locs 0 0 (MQ below (th_Q D cT T (km q) (th_RP 0 1 (fun r => (r.toInt ≠ 0 → 0 ≤ y1.toInt ∧ y1.toInt < q 16))) []) [.ref a0, .int y1].toArray s 0 0 (th_A T [])) (F0 m 0 ls []) := by
    intro H locs ls hH hS hl
    refine lv_iload_n hx hb dX11_isFood_0 rfl (lv_at hl 1 rfl) ?_
    refine lv_iconst (v := 0) hx hb dX11_isFood_1 (by decide) ?_
    refine lv_aload_n hx hb dX11_isFood_2 rfl (lv_at hl 0 rfl) ?_
    refine th_get S hK hH inG11 t0 km_0 rfl 11 (by decide) gm_1241 rfl rfl dX11_isFood_3 (fun v1 hv1 fv1 => ?_)
    obtain ⟨rf2, rfl, trf2⟩ := th_V.ref hv1
    refine lv_aload_n hx hb dX11_isFood_6 rfl (lv_at hl 0 rfl) ?_
    refine th_get S hK hH inG11 t0 km_0 rfl 41 (by decide) gm_1271 rfl rfl dX11_isFood_7 (fun v3 hv3 fv3 => ?_)
    obtain ⟨x4, rfl, ix4⟩ := th_V.int hv3
    have kx4a : q 10 ≤ x4.toInt := ix4.1
    have kx4b : x4.toInt ≤ q 10 := ix4.2
    have ix4 : IV x4 0 1 := iv_w ix4 (qkm_10 hq)
    refine th_iald S hK hH trf2 km_3 (th_in (hi := 1) ix4 (by decide)) dX11_isFood_10 (fun v5 hv5 => ?_)
    obtain ⟨x6, rfl, ix6⟩ := th_bkA hv5 ix4 (by omega)
    have kx6a : q 16 ≤ x6.toInt := ix6.1
    have kx6b : x6.toInt ≤ q 16 := ix6.2
    have ix6 : IV x6 0 3 := iv_w ix6 (qkm_16 hq)
    refine lv_iconst (v := 1) hx hb dX11_isFood_11 (by decide) ?_
    refine lv_isub hx hb dX11_isFood_12 ?_
    refine lv_topi (fun x7 ex7 => ?_)
    have ix7 : IV x7 (-1) 2 := by rw [ex7]; exact iv_sub ix6 (iv_c (by decide) : IV 1 1 1) (by decide)
    have ux7 : x7.toInt = x6.toInt - (1 : Int) := by rw [ex7]; exact iv_subE (by have z1 := (ix6).1; have z2 := (ix6).2; have z3 := ((iv_c (by decide) : IV 1 1 1)).1; have z4 := ((iv_c (by decide) : IV 1 1 1)).2; omega)
    refine th_callSp (n := 3) (As := [.int y1, .int 0, .int x7]) S hK hH hS (th_A.sub (by decide)) (m_X11_isIn l D cT T q hT hq (y1) j1 (0) (iv_top _) (x7) (iv_top _)) gm_1618 gm_1616 gm_1617 gm_124 (by decide +kernel) ⟨rfl, rfl, Nat.le_of_ble_eq_true rfl, Nat.le_of_ble_eq_true rfl⟩ rfl hl.1 rfl (Nat.le_of_ble_eq_true rfl) dX11_isFood_13 ⟨Nat.zero_le _, Nat.zero_le _⟩ (fun x8 H locs ix8 ox8 hH hS hF1 => ?_)
    obtain ⟨ox8_0, ox8_1⟩ := ox8
    have ox8_0 : x8.toInt ≠ 0 → (0 : Int) ≤ y1.toInt ∧ y1.toInt ≤ x7.toInt := ox8_0
    have ox8_1 : x8.toInt = 0 → y1.toInt < (0 : Int) ∨ x7.toInt < y1.toInt := ox8_1
    exact th_zret S hK hH hS hr hlocks ix8 (th_RP.i ix8 (show x8.toInt ≠ 0 → 0 ≤ y1.toInt ∧ y1.toInt < q 16 by first | assumption | (first | omega | (intro z; omega)))) dX11_isFood_16
  exact J0 s.heap [] ls hH va_S.rf hl

set_option maxRecDepth 100000 in
theorem m_X11_isPlace (l : Launch) (D : va_G) (cT : Nat → ClassId) (T : Nat → Option Nat) (q : Nat → Int) (hT : tokm T) (hq : qkm q) (a0 : Nat) (t0 : T a0 = some 0) (y1 : Int32) (j1 : IV y1 (-2147483648) 2147483647) : th_Met l D cT T (km q) yX11_isPlace cX11_isPlace 2 (some .boolean) (rmk 1 22) [.ref a0, .int y1] (th_RP 0 1 (fun r => (r.toInt ≠ 0 → 0 ≤ y1.toInt ∧ y1.toInt < q 18))) [] := by
  refine th_start (by decide) (Nat.le_of_ble_eq_true rfl) ?_
  intro p e s m below meth c ls S hK hH hr hlocks hnm hl
  have hx := S.1
  have hb := S.2.1
  have hl : lv_has ls 2 [(0, .ref a0), (1, .int y1)] := hl
  have J0 : ∀ (H : Heap) (locs : List Loc) (ls : Array Slot), th_H D cT T (km q) H → va_S (th_A T []) s.heap H locs → lv_has ls 2 [(0, .ref a0), (1, .int y1)] → W p l e (rmk 1 22) s m [.ref a0, .int y1].toArray below meth c H locs 0 0 (MQ below (th_Q D cT T (km q) (th_RP 0 1 (fun r => (r.toInt ≠ 0 → 0 ≤ y1.toInt ∧ y1.toInt < q 18))) []) [.ref a0, .int y1].toArray s 0 0 (th_A T [])) (F0 m 0 ls []) := by
    intro H locs ls hH hS hl
    refine lv_iload_n hx hb dX11_isPlace_0 rfl (lv_at hl 1 rfl) ?_
    refine lv_iconst (v := 0) hx hb dX11_isPlace_1 (by decide) ?_
    refine lv_aload_n hx hb dX11_isPlace_2 rfl (lv_at hl 0 rfl) ?_
    refine th_get S hK hH inG11 t0 km_0 rfl 13 (by decide) gm_1243 rfl rfl dX11_isPlace_3 (fun v1 hv1 fv1 => ?_)
    obtain ⟨rf2, rfl, trf2⟩ := th_V.ref hv1
    refine lv_aload_n hx hb dX11_isPlace_6 rfl (lv_at hl 0 rfl) ?_
    refine th_get S hK hH inG11 t0 km_0 rfl 41 (by decide) gm_1271 rfl rfl dX11_isPlace_7 (fun v3 hv3 fv3 => ?_)
    obtain ⟨x4, rfl, ix4⟩ := th_V.int hv3
    have kx4a : q 10 ≤ x4.toInt := ix4.1
    have kx4b : x4.toInt ≤ q 10 := ix4.2
    have ix4 : IV x4 0 1 := iv_w ix4 (qkm_10 hq)
    refine th_iald S hK hH trf2 km_5 (th_in (hi := 1) ix4 (by decide)) dX11_isPlace_10 (fun v5 hv5 => ?_)
    obtain ⟨x6, rfl, ix6⟩ := th_bkA hv5 ix4 (by omega)
    have kx6a : q 18 ≤ x6.toInt := ix6.1
    have kx6b : x6.toInt ≤ q 18 := ix6.2
    have ix6 : IV x6 0 8 := iv_w ix6 (qkm_18 hq)
    refine lv_iconst (v := 1) hx hb dX11_isPlace_11 (by decide) ?_
    refine lv_isub hx hb dX11_isPlace_12 ?_
    refine lv_topi (fun x7 ex7 => ?_)
    have ix7 : IV x7 (-1) 7 := by rw [ex7]; exact iv_sub ix6 (iv_c (by decide) : IV 1 1 1) (by decide)
    have ux7 : x7.toInt = x6.toInt - (1 : Int) := by rw [ex7]; exact iv_subE (by have z1 := (ix6).1; have z2 := (ix6).2; have z3 := ((iv_c (by decide) : IV 1 1 1)).1; have z4 := ((iv_c (by decide) : IV 1 1 1)).2; omega)
    refine th_callSp (n := 3) (As := [.int y1, .int 0, .int x7]) S hK hH hS (th_A.sub (by decide)) (m_X11_isIn l D cT T q hT hq (y1) j1 (0) (iv_top _) (x7) (iv_top _)) gm_1618 gm_1616 gm_1617 gm_124 (by decide +kernel) ⟨rfl, rfl, Nat.le_of_ble_eq_true rfl, Nat.le_of_ble_eq_true rfl⟩ rfl hl.1 rfl (Nat.le_of_ble_eq_true rfl) dX11_isPlace_13 ⟨Nat.zero_le _, Nat.zero_le _⟩ (fun x8 H locs ix8 ox8 hH hS hF1 => ?_)
    obtain ⟨ox8_0, ox8_1⟩ := ox8
    have ox8_0 : x8.toInt ≠ 0 → (0 : Int) ≤ y1.toInt ∧ y1.toInt ≤ x7.toInt := ox8_0
    have ox8_1 : x8.toInt = 0 → y1.toInt < (0 : Int) ∨ x7.toInt < y1.toInt := ox8_1
    exact th_zret S hK hH hS hr hlocks ix8 (th_RP.i ix8 (show x8.toInt ≠ 0 → 0 ≤ y1.toInt ∧ y1.toInt < q 18 by first | assumption | (first | omega | (intro z; omega)))) dX11_isPlace_16
  exact J0 s.heap [] ls hH va_S.rf hl

set_option maxRecDepth 100000 in
theorem m_X11_isOn (l : Launch) (D : va_G) (cT : Nat → ClassId) (T : Nat → Option Nat) (q : Nat → Int) (hT : tokm T) (hq : qkm q) (a0 : Nat) (t0 : T a0 = some 0) (y1 : Int32) (j1 : IV y1 0 7) (y2 : Int32) (j2 : IV y2 (-2147483648) 2147483647) : th_Met l D cT T (km q) yX11_isOn cX11_isOn 3 (some .boolean) (rmk 1 21) [.ref a0, .int y1, .int y2] (th_R T (some (.inl (0, 1)))) [] := by
  refine th_start (by decide) (Nat.le_of_ble_eq_true rfl) ?_
  intro p e s m below meth c ls S hK hH hr hlocks hnm hl
  have hx := S.1
  have hb := S.2.1
  have l1y1 := j1.1; have l2y1 := j1.2
  have hl : lv_has ls 3 [(0, .ref a0), (1, .int y1), (2, .int y2)] := hl
  have J0 : ∀ (H : Heap) (locs : List Loc) (ls : Array Slot), th_H D cT T (km q) H → va_S (th_A T []) s.heap H locs → lv_has ls 3 [(0, .ref a0), (1, .int y1), (2, .int y2)] → W p l e (rmk 1 21) s m [.ref a0, .int y1, .int y2].toArray below meth c H locs 0 0 (MQ below (th_Q D cT T (km q) (th_R T (some (.inl (0, 1)))) []) [.ref a0, .int y1, .int y2].toArray s 0 0 (th_A T [])) (F0 m 0 ls []) := by
    intro H locs ls hH hS hl
    refine lv_aload_n hx hb dX11_isOn_0 rfl (lv_at hl 0 rfl) ?_
    refine th_get S hK hH inG11 t0 km_0 rfl 25 (by decide) gm_1255 rfl rfl dX11_isOn_1 (fun v1 hv1 fv1 => ?_)
    obtain ⟨rf2, rfl, trf2⟩ := th_V.ref hv1
    refine lv_bipush (v := 8) hx hb dX11_isOn_4 (by decide) ?_
    refine lv_aload_n hx hb dX11_isOn_6 rfl (lv_at hl 0 rfl) ?_
    refine th_get S hK hH inG11 t0 km_0 rfl 41 (by decide) gm_1271 rfl rfl dX11_isOn_7 (fun v3 hv3 fv3 => ?_)
    obtain ⟨x4, rfl, ix4⟩ := th_V.int hv3
    have kx4a : q 10 ≤ x4.toInt := ix4.1
    have kx4b : x4.toInt ≤ q 10 := ix4.2
    have ix4 : IV x4 0 1 := iv_w ix4 (qkm_10 hq)
    refine lv_imul hx hb dX11_isOn_10 ?_
    refine lv_topi (fun x5 ex5 => ?_)
    have ix5 : IV x5 0 8 := by rw [ex5]; exact iv_mul (iv_c (by decide) : IV 8 8 8) ix4 (by decide) (by decide)
    have ux5 : x5.toInt = (8 : Int) * x4.toInt := by rw [ex5]; exact iv_mulE (iv_corner ((iv_c (by decide) : IV 8 8 8)).1 ((iv_c (by decide) : IV 8 8 8)).2 (ix4).1 (ix4).2 (by decide))
    refine lv_iload_n hx hb dX11_isOn_11 rfl (lv_at hl 1 rfl) ?_
    refine lv_iadd hx hb dX11_isOn_12 ?_
    refine lv_topi (fun x6 ex6 => ?_)
    have ix6 : IV x6 0 15 := by rw [ex6]; exact iv_add ix5 j1 (by decide)
    have ux6 : x6.toInt = x5.toInt + y1.toInt := by rw [ex6]; exact iv_addE (by have z1 := (ix5).1; have z2 := (ix5).2; have z3 := (j1).1; have z4 := (j1).2; omega)
    refine th_iald S hK hH trf2 km_17 (th_in (hi := 15) ix6 (by decide)) dX11_isOn_13 (fun v7 hv7 => ?_)
    obtain ⟨x8, rfl, ix8⟩ := th_V.int hv7
    refine lv_iload_n hx hb dX11_isOn_14 rfl (lv_at hl 2 rfl) ?_
    refine th_callSp (n := 2) (As := [.int x8, .int y2]) S hK hH hS (th_A.sub (by decide)) (m_X11_has l D cT T q hT hq (x8) ix8 (y2) j2) gm_1633 gm_1631 gm_1632 gm_124 (by decide +kernel) ⟨rfl, rfl, Nat.le_of_ble_eq_true rfl, Nat.le_of_ble_eq_true rfl⟩ rfl hl.1 rfl (Nat.le_of_ble_eq_true rfl) dX11_isOn_15 ⟨Nat.zero_le _, Nat.zero_le _⟩ (fun x9 H locs ix9 ox9 hH hS hF1 => ?_)
    have ox9 : x9.toInt = 0 → ¬ ((x8 >>> (y2 &&& 31)) &&& 1 = 1) := ox9
    exact th_zret S hK hH hS hr hlocks ix9 (th_R.i ix9) dX11_isOn_18
  exact J0 s.heap [] ls hH va_S.rf hl

set_option maxRecDepth 100000 in
theorem m_X11_likedBy (l : Launch) (D : va_G) (cT : Nat → ClassId) (T : Nat → Option Nat) (q : Nat → Int) (hT : tokm T) (hq : qkm q) (a0 : Nat) (t0 : T a0 = some 0) (y1 : Int32) (j1 : IV y1 0 3) (y2 : Int32) (j2 : IV y2 0 2) : th_Met l D cT T (km q) yX11_likedBy cX11_likedBy 3 (some .int) (rmk 0 0) [.ref a0, .int y1, .int y2] (th_R T (some (.inl (-2147483648, 2147483647)))) [] := by
  refine th_start (by decide) (Nat.le_of_ble_eq_true rfl) ?_
  intro p e s m below meth c ls S hK hH hr hlocks hnm hl
  have hx := S.1
  have hb := S.2.1
  have l1y1 := j1.1; have l2y1 := j1.2
  have l1y2 := j2.1; have l2y2 := j2.2
  have hl : lv_has ls 3 [(0, .ref a0), (1, .int y1), (2, .int y2)] := hl
  have J0 : ∀ (H : Heap) (locs : List Loc) (ls : Array Slot), th_H D cT T (km q) H → va_S (th_A T []) s.heap H locs → lv_has ls 3 [(0, .ref a0), (1, .int y1), (2, .int y2)] → W p l e (rmk 0 0) s m [.ref a0, .int y1, .int y2].toArray below meth c H locs 0 0 (MQ below (th_Q D cT T (km q) (th_R T (some (.inl (-2147483648, 2147483647)))) []) [.ref a0, .int y1, .int y2].toArray s 0 0 (th_A T [])) (F0 m 0 ls []) := by
    intro H locs ls hH hS hl
    refine lv_aload_n hx hb dX11_likedBy_0 rfl (lv_at hl 0 rfl) ?_
    refine th_get S hK hH inG11 t0 km_0 rfl 26 (by decide) gm_1256 rfl rfl dX11_likedBy_1 (fun v1 hv1 fv1 => ?_)
    obtain ⟨rf2, rfl, trf2⟩ := th_V.ref hv1
    refine lv_iconst (v := 3) hx hb dX11_likedBy_4 (by decide) ?_
    refine lv_iconst (v := 4) hx hb dX11_likedBy_5 (by decide) ?_
    refine lv_aload_n hx hb dX11_likedBy_6 rfl (lv_at hl 0 rfl) ?_
    refine th_get S hK hH inG11 t0 km_0 rfl 41 (by decide) gm_1271 rfl rfl dX11_likedBy_7 (fun v3 hv3 fv3 => ?_)
    obtain ⟨x4, rfl, ix4⟩ := th_V.int hv3
    have kx4a : q 10 ≤ x4.toInt := ix4.1
    have kx4b : x4.toInt ≤ q 10 := ix4.2
    have ix4 : IV x4 0 1 := iv_w ix4 (qkm_10 hq)
    refine lv_imul hx hb dX11_likedBy_10 ?_
    refine lv_topi (fun x5 ex5 => ?_)
    have ix5 : IV x5 0 4 := by rw [ex5]; exact iv_mul (iv_c (by decide) : IV 4 4 4) ix4 (by decide) (by decide)
    have ux5 : x5.toInt = (4 : Int) * x4.toInt := by rw [ex5]; exact iv_mulE (iv_corner ((iv_c (by decide) : IV 4 4 4)).1 ((iv_c (by decide) : IV 4 4 4)).2 (ix4).1 (ix4).2 (by decide))
    refine lv_iload_n hx hb dX11_likedBy_11 rfl (lv_at hl 1 rfl) ?_
    refine lv_iadd hx hb dX11_likedBy_12 ?_
    refine lv_topi (fun x6 ex6 => ?_)
    have ix6 : IV x6 0 7 := by rw [ex6]; exact iv_add ix5 j1 (by decide)
    have ux6 : x6.toInt = x5.toInt + y1.toInt := by rw [ex6]; exact iv_addE (by have z1 := (ix5).1; have z2 := (ix5).2; have z3 := (j1).1; have z4 := (j1).2; omega)
    refine lv_imul hx hb dX11_likedBy_13 ?_
    refine lv_topi (fun x7 ex7 => ?_)
    have ix7 : IV x7 0 21 := by rw [ex7]; exact iv_mul (iv_c (by decide) : IV 3 3 3) ix6 (by decide) (by decide)
    have ux7 : x7.toInt = (3 : Int) * x6.toInt := by rw [ex7]; exact iv_mulE (iv_corner ((iv_c (by decide) : IV 3 3 3)).1 ((iv_c (by decide) : IV 3 3 3)).2 (ix6).1 (ix6).2 (by decide))
    refine lv_iload_n hx hb dX11_likedBy_14 rfl (lv_at hl 2 rfl) ?_
    refine lv_iadd hx hb dX11_likedBy_15 ?_
    refine lv_topi (fun x8 ex8 => ?_)
    have ix8 : IV x8 0 23 := by rw [ex8]; exact iv_add ix7 j2 (by decide)
    have ux8 : x8.toInt = x7.toInt + y2.toInt := by rw [ex8]; exact iv_addE (by have z1 := (ix7).1; have z2 := (ix7).2; have z3 := (j2).1; have z4 := (j2).2; omega)
    refine th_iald S hK hH trf2 km_18 (th_in (hi := 23) ix8 (by decide)) dX11_likedBy_16 (fun v9 hv9 => ?_)
    obtain ⟨x10, rfl, ix10⟩ := th_V.int hv9
    exact th_iret S hK hH hS hr hlocks (th_R.i ix10) dX11_likedBy_17
  exact J0 s.heap [] ls hH va_S.rf hl

set_option maxRecDepth 100000 in
theorem m_X11_doesBite (l : Launch) (D : va_G) (cT : Nat → ClassId) (T : Nat → Option Nat) (q : Nat → Int) (hT : tokm T) (hq : qkm q) (a0 : Nat) (t0 : T a0 = some 0) (y1 : Int32) (j1 : IV y1 0 3) (y2 : Int32) (j2 : IV y2 0 3) : th_Met l D cT T (km q) yX11_doesBite cX11_doesBite 3 (some .boolean) (rmk 1 21) [.ref a0, .int y1, .int y2] (th_R T (some (.inl (0, 1)))) [] := by
  refine th_start (by decide) (Nat.le_of_ble_eq_true rfl) ?_
  intro p e s m below meth c ls S hK hH hr hlocks hnm hl
  have hx := S.1
  have hb := S.2.1
  have l1y1 := j1.1; have l2y1 := j1.2
  have l1y2 := j2.1; have l2y2 := j2.2
  have hl : lv_has ls 3 [(0, .ref a0), (1, .int y1), (2, .int y2)] := hl
  have J74_s0_0 : ∀ (H : Heap) (locs : List Loc) (ls : Array Slot), th_H D cT T (km q) H → va_S (th_A T []) s.heap H locs → lv_has ls 3 [] → W p l e (rmk 1 21) s m [.ref a0, .int y1, .int y2].toArray below meth c H locs 0 0 (MQ below (th_Q D cT T (km q) (th_R T (some (.inl (0, 1)))) []) [.ref a0, .int y1, .int y2].toArray s 0 0 (th_A T [])) (F0 m 74 ls [.int 0]) := by
    intro H locs ls hH hS hl
    exact th_zret S hK hH hS hr hlocks (iv_w (iv_c (by decide) : IV 0 0 0) (by decide)) (th_R.i (iv_w (iv_c (by decide) : IV 0 0 0) (by decide))) dX11_doesBite_74
  have J74_s0_1 : ∀ (H : Heap) (locs : List Loc) (ls : Array Slot), th_H D cT T (km q) H → va_S (th_A T []) s.heap H locs → lv_has ls 3 [] → W p l e (rmk 1 21) s m [.ref a0, .int y1, .int y2].toArray below meth c H locs 0 0 (MQ below (th_Q D cT T (km q) (th_R T (some (.inl (0, 1)))) []) [.ref a0, .int y1, .int y2].toArray s 0 0 (th_A T [])) (F0 m 74 ls [.int 1]) := by
    intro H locs ls hH hS hl
    exact th_zret S hK hH hS hr hlocks (iv_w (iv_c (by decide) : IV 1 1 1) (by decide)) (th_R.i (iv_w (iv_c (by decide) : IV 1 1 1) (by decide))) dX11_doesBite_74
  have J73 : ∀ (H : Heap) (locs : List Loc) (ls : Array Slot), th_H D cT T (km q) H → va_S (th_A T []) s.heap H locs → lv_has ls 3 [] → W p l e (rmk 1 21) s m [.ref a0, .int y1, .int y2].toArray below meth c H locs 0 0 (MQ below (th_Q D cT T (km q) (th_R T (some (.inl (0, 1)))) []) [.ref a0, .int y1, .int y2].toArray s 0 0 (th_A T [])) (F0 m 73 ls []) := by
    intro H locs ls hH hS hl
    refine lv_iconst (v := 0) hx hb dX11_doesBite_73 (by decide) ?_
    exact J74_s0_0 H locs ls  hH hS (lv_sub hl [] rfl)
  have J0 : ∀ (H : Heap) (locs : List Loc) (ls : Array Slot), th_H D cT T (km q) H → va_S (th_A T []) s.heap H locs → lv_has ls 3 [(0, .ref a0), (1, .int y1), (2, .int y2)] → W p l e (rmk 1 21) s m [.ref a0, .int y1, .int y2].toArray below meth c H locs 0 0 (MQ below (th_Q D cT T (km q) (th_R T (some (.inl (0, 1)))) []) [.ref a0, .int y1, .int y2].toArray s 0 0 (th_A T [])) (F0 m 0 ls []) := by
    intro H locs ls hH hS hl
    refine lv_aload_n hx hb dX11_doesBite_0 rfl (lv_at hl 0 rfl) ?_
    refine th_get S hK hH inG11 t0 km_0 rfl 22 (by decide) gm_1252 rfl rfl dX11_doesBite_1 (fun v1 hv1 fv1 => ?_)
    obtain ⟨rf2, rfl, trf2⟩ := th_V.ref hv1
    refine lv_iconst (v := 4) hx hb dX11_doesBite_4 (by decide) ?_
    refine lv_aload_n hx hb dX11_doesBite_5 rfl (lv_at hl 0 rfl) ?_
    refine th_get S hK hH inG11 t0 km_0 rfl 41 (by decide) gm_1271 rfl rfl dX11_doesBite_6 (fun v3 hv3 fv3 => ?_)
    obtain ⟨x4, rfl, ix4⟩ := th_V.int hv3
    have kx4a : q 10 ≤ x4.toInt := ix4.1
    have kx4b : x4.toInt ≤ q 10 := ix4.2
    have ix4 : IV x4 0 1 := iv_w ix4 (qkm_10 hq)
    refine lv_imul hx hb dX11_doesBite_9 ?_
    refine lv_topi (fun x5 ex5 => ?_)
    have ix5 : IV x5 0 4 := by rw [ex5]; exact iv_mul (iv_c (by decide) : IV 4 4 4) ix4 (by decide) (by decide)
    have ux5 : x5.toInt = (4 : Int) * x4.toInt := by rw [ex5]; exact iv_mulE (iv_corner ((iv_c (by decide) : IV 4 4 4)).1 ((iv_c (by decide) : IV 4 4 4)).2 (ix4).1 (ix4).2 (by decide))
    refine lv_iload_n hx hb dX11_doesBite_10 rfl (lv_at hl 1 rfl) ?_
    refine lv_iadd hx hb dX11_doesBite_11 ?_
    refine lv_topi (fun x6 ex6 => ?_)
    have ix6 : IV x6 0 7 := by rw [ex6]; exact iv_add ix5 j1 (by decide)
    have ux6 : x6.toInt = x5.toInt + y1.toInt := by rw [ex6]; exact iv_addE (by have z1 := (ix5).1; have z2 := (ix5).2; have z3 := (j1).1; have z4 := (j1).2; omega)
    refine th_iald S hK hH trf2 km_14 (th_in (hi := 7) ix6 (by decide)) dX11_doesBite_12 (fun v7 hv7 => ?_)
    obtain ⟨x8, rfl, ix8⟩ := th_V.int hv7
    refine lv_iload_n hx hb dX11_doesBite_13 rfl (lv_at hl 2 rfl) ?_
    refine th_callSp (n := 2) (As := [.int x8, .int y2]) S hK hH hS (th_A.sub (by decide)) (m_X11_has l D cT T q hT hq (x8) ix8 (y2) (iv_top _)) gm_1633 gm_1631 gm_1632 gm_124 (by decide +kernel) ⟨rfl, rfl, Nat.le_of_ble_eq_true rfl, Nat.le_of_ble_eq_true rfl⟩ rfl hl.1 rfl (Nat.le_of_ble_eq_true rfl) dX11_doesBite_14 ⟨Nat.zero_le _, Nat.zero_le _⟩ (fun x9 H locs ix9 ox9 hH hS hF1 => ?_)
    have ox9 : x9.toInt = 0 → ¬ ((x8 >>> (y2 &&& 31)) &&& 1 = 1) := ox9
    refine lv_if_eq (tgt := 73) hx hb dX11_doesBite_17 (by decide) (fun c10 => ?_) (fun c10 => ?_)
    · skip
      have rlc10 : x9.toInt = (0 : Int) := congrArg Int32.toInt c10
      have ir11 : IV x9 0 0 := iv_eL c10 (iv_c (by decide) : IV 0 0 0)
      have ir11a := ir11.1; have ir11b := ir11.2
      exact J73 H locs ls  hH hS (lv_sub hl [] rfl)
    · skip
      have rlc10 : x9.toInt ≠ (0 : Int) := iv_ne c10
      have ir12 : IV x9 1 1 := iv_cutL ix9 (iv_c (by decide) : IV 0 0 0) c10 (by decide)
      have ir12a := ir12.1; have ir12b := ir12.2
      refine lv_aload_n hx hb dX11_doesBite_20 rfl (lv_at hl 0 rfl) ?_
      refine th_get S hK hH inG11 t0 km_0 rfl 52 (by decide) gm_1282 rfl rfl dX11_doesBite_21 (fun v13 hv13 fv13 => ?_)
      obtain ⟨rf14, rfl, trf14⟩ := th_V.ref hv13
      refine lv_bipush (v := 35) hx hb dX11_doesBite_24 (by decide) ?_
      refine lv_iload_n hx hb dX11_doesBite_26 rfl (lv_at hl 1 rfl) ?_
      refine lv_iadd hx hb dX11_doesBite_27 ?_
      refine lv_topi (fun x15 ex15 => ?_)
      have ix15 : IV x15 35 38 := by rw [ex15]; exact iv_add (iv_c (by decide) : IV 35 35 35) j1 (by decide)
      have ux15 : x15.toInt = (35 : Int) + y1.toInt := by rw [ex15]; exact iv_addE (by have z1 := ((iv_c (by decide) : IV 35 35 35)).1; have z2 := ((iv_c (by decide) : IV 35 35 35)).2; have z3 := (j1).1; have z4 := (j1).2; omega)
      refine th_iald S hK hH trf14 km_33 (th_in (hi := 38) (iv_w ix15 (by decide)) (by decide)) dX11_doesBite_28 (fun v16 hv16 => ?_)
      obtain ⟨x17, rfl, ix17⟩ := th_V.int hv16
      refine lv_aload_n hx hb dX11_doesBite_29 rfl (lv_at hl 0 rfl) ?_
      refine th_getK S hK fv13 inG11 rfl (by decide) gm_1282 rfl dX11_doesBite_30 ?_
      refine lv_bipush (v := 35) hx hb dX11_doesBite_33 (by decide) ?_
      refine lv_iload_n hx hb dX11_doesBite_35 rfl (lv_at hl 2 rfl) ?_
      refine lv_iadd hx hb dX11_doesBite_36 ?_
      refine lv_topi (fun x19 ex19 => ?_)
      have ix19 : IV x19 35 38 := by rw [ex19]; exact iv_add (iv_c (by decide) : IV 35 35 35) j2 (by decide)
      have ux19 : x19.toInt = (35 : Int) + y2.toInt := by rw [ex19]; exact iv_addE (by have z1 := ((iv_c (by decide) : IV 35 35 35)).1; have z2 := ((iv_c (by decide) : IV 35 35 35)).2; have z3 := (j2).1; have z4 := (j2).2; omega)
      refine th_iald S hK hH trf14 km_33 (th_in (hi := 38) (iv_w ix19 (by decide)) (by decide)) dX11_doesBite_37 (fun v20 hv20 => ?_)
      obtain ⟨x21, rfl, ix21⟩ := th_V.int hv20
      refine lv_icmp_ne (tgt := 73) hx hb dX11_doesBite_38 (by decide) (fun c22 => ?_) (fun c22 => ?_)
      · skip
        have rlc22 : x17.toInt ≠ x21.toInt := iv_ne c22
        exact J73 H locs ls  hH hS (lv_sub hl [] rfl)
      · skip
        have rlc22 : x17.toInt = x21.toInt := congrArg Int32.toInt c22
        refine lv_aload_n hx hb dX11_doesBite_41 rfl (lv_at hl 0 rfl) ?_
        refine th_getK S hK fv13 inG11 rfl (by decide) gm_1282 rfl dX11_doesBite_42 ?_
        refine lv_bipush (v := 39) hx hb dX11_doesBite_45 (by decide) ?_
        refine th_iald S hK hH trf14 km_33 (th_in (hi := 39) (iv_w (iv_c (by decide) : IV 39 39 39) (by decide)) (by decide)) dX11_doesBite_47 (fun v24 hv24 => ?_)
        obtain ⟨x25, rfl, ix25⟩ := th_V.int hv24
        refine lv_iload_n hx hb dX11_doesBite_48 rfl (lv_at hl 1 rfl) ?_
        refine th_callSp (n := 2) (As := [.int x25, .int y1]) S hK hH hS (th_A.sub (by decide)) (m_X11_has l D cT T q hT hq (x25) ix25 (y1) (iv_top _)) gm_1633 gm_1631 gm_1632 gm_124 (by decide +kernel) ⟨rfl, rfl, Nat.le_of_ble_eq_true rfl, Nat.le_of_ble_eq_true rfl⟩ rfl hl.1 rfl (Nat.le_of_ble_eq_true rfl) dX11_doesBite_49 ⟨Nat.zero_le _, Nat.zero_le _⟩ (fun x26 H locs ix26 ox26 hH hS hF1 => ?_)
        have ox26 : x26.toInt = 0 → ¬ ((x25 >>> (y1 &&& 31)) &&& 1 = 1) := ox26
        have f27 := fv13.kept (hF1 _ fv13.lt (th_off t0 (by decide)))
        refine lv_if_ne (tgt := 73) hx hb dX11_doesBite_52 (by decide) (fun c28 => ?_) (fun c28 => ?_)
        · skip
          have rlc28 : x26.toInt ≠ (0 : Int) := iv_ne c28
          have ir29 : IV x26 1 1 := iv_cutL ix26 (iv_c (by decide) : IV 0 0 0) c28 (by decide)
          have ir29a := ir29.1; have ir29b := ir29.2
          exact J73 H locs ls  hH hS (lv_sub hl [] rfl)
        · skip
          have rlc28 : x26.toInt = (0 : Int) := congrArg Int32.toInt c28
          have ir30 : IV x26 0 0 := iv_eL c28 (iv_c (by decide) : IV 0 0 0)
          have ir30a := ir30.1; have ir30b := ir30.2
          refine lv_aload_n hx hb dX11_doesBite_55 rfl (lv_at hl 0 rfl) ?_
          refine th_getK S hK f27 inG11 rfl (by decide) gm_1282 rfl dX11_doesBite_56 ?_
          refine lv_bipush (v := 39) hx hb dX11_doesBite_59 (by decide) ?_
          refine th_iald S hK hH trf14 km_33 (th_in (hi := 39) (iv_w (iv_c (by decide) : IV 39 39 39) (by decide)) (by decide)) dX11_doesBite_61 (fun v32 hv32 => ?_)
          obtain ⟨x33, rfl, ix33⟩ := th_V.int hv32
          refine lv_iload_n hx hb dX11_doesBite_62 rfl (lv_at hl 2 rfl) ?_
          refine th_callSp (n := 2) (As := [.int x33, .int y2]) S hK hH hS (th_A.sub (by decide)) (m_X11_has l D cT T q hT hq (x33) ix33 (y2) (iv_top _)) gm_1633 gm_1631 gm_1632 gm_124 (by decide +kernel) ⟨rfl, rfl, Nat.le_of_ble_eq_true rfl, Nat.le_of_ble_eq_true rfl⟩ rfl hl.1 rfl (Nat.le_of_ble_eq_true rfl) dX11_doesBite_63 ⟨Nat.zero_le _, Nat.zero_le _⟩ (fun x34 H locs ix34 ox34 hH hS hF1 => ?_)
          have ox34 : x34.toInt = 0 → ¬ ((x33 >>> (y2 &&& 31)) &&& 1 = 1) := ox34
          have f35 := f27.kept (hF1 _ f27.lt (th_off t0 (by decide)))
          refine lv_if_ne (tgt := 73) hx hb dX11_doesBite_66 (by decide) (fun c36 => ?_) (fun c36 => ?_)
          · skip
            have rlc36 : x34.toInt ≠ (0 : Int) := iv_ne c36
            have ir37 : IV x34 1 1 := iv_cutL ix34 (iv_c (by decide) : IV 0 0 0) c36 (by decide)
            have ir37a := ir37.1; have ir37b := ir37.2
            exact J73 H locs ls  hH hS (lv_sub hl [] rfl)
          · skip
            have rlc36 : x34.toInt = (0 : Int) := congrArg Int32.toInt c36
            have ir38 : IV x34 0 0 := iv_eL c36 (iv_c (by decide) : IV 0 0 0)
            have ir38a := ir38.1; have ir38b := ir38.2
            refine lv_iconst (v := 1) hx hb dX11_doesBite_69 (by decide) ?_
            refine lv_goto (tgt := 74) hx hb dX11_doesBite_70 (by decide) ?_
            exact J74_s0_1 H locs ls  hH hS (lv_sub hl [] rfl)
  exact J0 s.heap [] ls hH va_S.rf hl

set_option maxRecDepth 100000 in
theorem m_X11_hungerOf (l : Launch) (D : va_G) (cT : Nat → ClassId) (T : Nat → Option Nat) (q : Nat → Int) (hT : tokm T) (hq : qkm q) (a0 : Nat) (t0 : T a0 = some 0) (y1 : Int32) (j1 : IV y1 0 3) (hp0 : y1.toInt < q 11) : th_Met l D cT T (km q) yX11_hungerOf cX11_hungerOf 4 (some .int) (rmk 2 46) [.ref a0, .int y1] (th_R T (some (.inl (-2147483648, 99)))) [0, 32] := by
  refine th_start (by decide) (Nat.le_of_ble_eq_true rfl) ?_
  intro p e s m below meth c ls S hK hH hr hlocks hnm hl
  have hx := S.1
  have hb := S.2.1
  have l1y1 := j1.1; have l2y1 := j1.2
  have hl : lv_has ls 4 [(0, .ref a0), (1, .int y1)] := hl
  have J133 : ∀ (H : Heap) (locs : List Loc) (ls : Array Slot) (w133_0 : Int32), IV w133_0 (-2147483648) 99 → th_H D cT T (km q) H → va_S (th_A T [0, 32]) s.heap H locs → lv_has ls 4 [] → W p l e (rmk 2 46) s m [.ref a0, .int y1].toArray below meth c H locs 0 0 (MQ below (th_Q D cT T (km q) (th_R T (some (.inl (-2147483648, 99)))) [0, 32]) [.ref a0, .int y1].toArray s 0 0 (th_A T [0, 32])) (F0 m 133 ls [.int w133_0]) := by
    intro H locs ls w133_0 iw133_0 hH hS hl
    have l1w133_0 := iw133_0.1; have l2w133_0 := iw133_0.2
    exact th_iret S hK hH hS hr hlocks (th_R.i iw133_0) dX11_hungerOf_133
  have J133_s0_99 : ∀ (H : Heap) (locs : List Loc) (ls : Array Slot), th_H D cT T (km q) H → va_S (th_A T [0, 32]) s.heap H locs → lv_has ls 4 [] → W p l e (rmk 2 46) s m [.ref a0, .int y1].toArray below meth c H locs 0 0 (MQ below (th_Q D cT T (km q) (th_R T (some (.inl (-2147483648, 99)))) [0, 32]) [.ref a0, .int y1].toArray s 0 0 (th_A T [0, 32])) (F0 m 133 ls [.int 99]) := by
    intro H locs ls hH hS hl
    exact th_iret S hK hH hS hr hlocks (th_R.i (iv_w (iv_c (by decide) : IV 99 99 99) (by decide))) dX11_hungerOf_133
  have J90 : ∀ (n : Nat) (H : Heap) (locs : List Loc) (ls : Array Slot) (v90_2 : Int32) (v90_3 : Int32), IV v90_2 (-2147483648) 2147483647 → IV v90_3 0 4 → th_H D cT T (km q) H → va_S (th_A T [0, 32]) s.heap H locs → lv_has ls 4 [(0, .ref a0), (1, .int y1), (2, .int v90_2), (3, .int v90_3)] → (4 + 1 - Int32.toInt v90_3).toNat < n → W p l e (rmk 2 46) s m [.ref a0, .int y1].toArray below meth c H locs 0 0 (MQ below (th_Q D cT T (km q) (th_R T (some (.inl (-2147483648, 99)))) [0, 32]) [.ref a0, .int y1].toArray s 0 0 (th_A T [0, 32])) (F0 m 90 ls []) := by
    intro n
    induction n with
    | zero => intro H locs ls v90_2 v90_3 iv90_2 iv90_3 hH hS hl hn; exact absurd hn (Nat.not_lt_zero _)
    | succ n ih90 =>
      intro H locs ls v90_2 v90_3 iv90_2 iv90_3 hH hS hl hn90
      have J113_s1_0 : ∀ (H : Heap) (locs : List Loc) (ls : Array Slot), IV v90_3 0 3 → th_H D cT T (km q) H → va_S (th_A T [0, 32]) s.heap H locs → lv_has ls 4 [(0, .ref a0), (1, .int y1), (3, .int v90_3)] → W p l e (rmk 2 46) s m [.ref a0, .int y1].toArray below meth c H locs 0 0 (MQ below (th_Q D cT T (km q) (th_R T (some (.inl (-2147483648, 99)))) [0, 32]) [.ref a0, .int y1].toArray s 0 0 (th_A T [0, 32])) (F0 m 113 ls [.int 0, .int v90_2]) := by
        intro H locs ls f113_v90_3 hH hS hl
        refine lv_iadd hx hb dX11_hungerOf_113 ?_
        refine lv_topi (fun x1 ex1 => ?_)
        have ix1 : IV x1 (-2147483648) 2147483647 := by rw [ex1]; exact iv_add iv90_2 (iv_c (by decide) : IV 0 0 0) (by decide)
        have ux1 : x1.toInt = v90_2.toInt + (0 : Int) := by rw [ex1]; exact iv_addE (by have z1 := (iv90_2).1; have z2 := (iv90_2).2; have z3 := ((iv_c (by decide) : IV 0 0 0)).1; have z4 := ((iv_c (by decide) : IV 0 0 0)).2; omega)
        refine lv_istore_n (lv' := [(2, .int x1), (0, .ref a0), (1, .int y1), (3, .int v90_3)]) hx hb dX11_hungerOf_114 rfl hl (by decide) rfl (fun ls hl => ?_)
        refine th_iinc S dX11_hungerOf_115 hl (k := 3) rfl (by decide) f113_v90_3 (by decide) (fun x2 ls ex2 ix2 hl => ?_)
        have hl : lv_has ls 4 [(3, .int x2), (2, .int x1), (0, .ref a0), (1, .int y1)] := hl
        have ix2 : IV x2 1 4 := ix2
        refine lv_goto (tgt := 90) hx hb dX11_hungerOf_118 (by decide) ?_
        exact ih90 H locs ls x1 x2 ix1 (iv_w ix2 (by decide)) hH hS (lv_sub hl [2, 3, 1, 0] rfl) (th_up iv90_3 ex2 (by decide) hn90)
      have J113_s1_2 : ∀ (H : Heap) (locs : List Loc) (ls : Array Slot), IV v90_3 0 3 → th_H D cT T (km q) H → va_S (th_A T [0, 32]) s.heap H locs → lv_has ls 4 [(0, .ref a0), (1, .int y1), (3, .int v90_3)] → W p l e (rmk 2 46) s m [.ref a0, .int y1].toArray below meth c H locs 0 0 (MQ below (th_Q D cT T (km q) (th_R T (some (.inl (-2147483648, 99)))) [0, 32]) [.ref a0, .int y1].toArray s 0 0 (th_A T [0, 32])) (F0 m 113 ls [.int 2, .int v90_2]) := by
        intro H locs ls f113_v90_3 hH hS hl
        refine lv_iadd hx hb dX11_hungerOf_113 ?_
        refine lv_topi (fun x3 ex3 => ?_)
        have ix3 := iv_top x3
        refine lv_istore_n (lv' := [(2, .int x3), (0, .ref a0), (1, .int y1), (3, .int v90_3)]) hx hb dX11_hungerOf_114 rfl hl (by decide) rfl (fun ls hl => ?_)
        refine th_iinc S dX11_hungerOf_115 hl (k := 3) rfl (by decide) f113_v90_3 (by decide) (fun x4 ls ex4 ix4 hl => ?_)
        have hl : lv_has ls 4 [(3, .int x4), (2, .int x3), (0, .ref a0), (1, .int y1)] := hl
        have ix4 : IV x4 1 4 := ix4
        refine lv_goto (tgt := 90) hx hb dX11_hungerOf_118 (by decide) ?_
        exact ih90 H locs ls x3 x4 ix3 (iv_w ix4 (by decide)) hH hS (lv_sub hl [2, 3, 1, 0] rfl) (th_up iv90_3 ex4 (by decide) hn90)
      have l1v90_3 := iv90_3.1; have l2v90_3 := iv90_3.2
      refine lv_iload_n hx hb dX11_hungerOf_90 rfl (lv_at hl 3 rfl) ?_
      refine lv_aload_n hx hb dX11_hungerOf_91 rfl (lv_at hl 0 rfl) ?_
      refine th_callVp (n := 0) (As := []) S hK hH hS (th_A.sub (by decide)) (m_X11_many l D cT T q hT hq a0 t0) gm_1229 gm_1226 gm_1228 gm_46 gm_124 (by decide +kernel) ⟨rfl, rfl, Nat.le_of_ble_eq_true rfl, Nat.le_of_ble_eq_true rfl⟩ t0 km_0 rfl rfl hl.1 rfl (Nat.le_of_ble_eq_true rfl) dX11_hungerOf_92 ⟨Nat.zero_le _, Nat.zero_le _⟩ (fun x5 H locs ix5 ox5 hH hS hF1 => ?_)
      have ox5 : x5.toInt = q 11 := ox5
      refine lv_icmp_ge (tgt := 121) hx hb dX11_hungerOf_95 (by decide) (fun c6 => ?_) (fun c6 => ?_)
      · skip
        have rlc6 : x5.toInt ≤ v90_3.toInt := iv_le c6
        refine lv_iload_n hx hb dX11_hungerOf_121 rfl (lv_at hl 2 rfl) ?_
        refine lv_bipush (v := 99) hx hb dX11_hungerOf_122 (by decide) ?_
        refine lv_icmp_le (tgt := 132) hx hb dX11_hungerOf_124 (by decide) (fun c7 => ?_) (fun c7 => ?_)
        · skip
          have rlc7 : v90_2.toInt ≤ (99 : Int) := iv_le c7
          have ir8 : IV v90_2 (-2147483648) 99 := iv_vL iv90_2 (iv_c (by decide) : IV 99 99 99) (iv_le c7) (by decide)
          have ir8a := ir8.1; have ir8b := ir8.2
          refine lv_iload_n hx hb dX11_hungerOf_132 rfl (lv_at hl 2 rfl) ?_
          exact J133 H locs ls v90_2 ir8 hH hS (lv_sub hl [] rfl)
        · skip
          have rlc7 : (99 : Int) < v90_2.toInt := iv_nle c7
          have ir9 : IV v90_2 100 2147483647 := iv_uR (iv_c (by decide) : IV 99 99 99) iv90_2 (iv_nle c7) (by decide)
          have ir9a := ir9.1; have ir9b := ir9.2
          refine lv_bipush (v := 99) hx hb dX11_hungerOf_127 (by decide) ?_
          refine lv_goto (tgt := 133) hx hb dX11_hungerOf_129 (by decide) ?_
          exact J133_s0_99 H locs ls  hH hS (lv_sub hl [] rfl)
      · skip
        have rlc6 : v90_3.toInt < x5.toInt := iv_nle c6
        have ir10 : IV v90_3 0 3 := iv_uL iv90_3 ix5 (iv_nle c6) (by decide)
        have ir10a := ir10.1; have ir10b := ir10.2
        have ir11 : IV x5 1 4 := iv_uR iv90_3 ix5 (iv_nle c6) (by decide)
        have ir11a := ir11.1; have ir11b := ir11.2
        refine lv_iload_n hx hb dX11_hungerOf_98 rfl (lv_at hl 2 rfl) ?_
        refine lv_aload_n hx hb dX11_hungerOf_99 rfl (lv_at hl 0 rfl) ?_
        refine lv_iload_n hx hb dX11_hungerOf_100 rfl (lv_at hl 1 rfl) ?_
        refine lv_iload_n hx hb dX11_hungerOf_101 rfl (lv_at hl 3 rfl) ?_
        refine th_callVi (n := 2) (As := [.int y1, .int v90_3]) S hK hH hS (th_A.sub (by decide)) (m_X11_doesBite l D cT T q hT hq a0 t0 (y1) j1 (v90_3) ir10) gm_1648 gm_1645 gm_1647 gm_84 gm_124 (by decide +kernel) ⟨rfl, rfl, Nat.le_of_ble_eq_true rfl, Nat.le_of_ble_eq_true rfl⟩ t0 km_0 rfl rfl hl.1 rfl (Nat.le_of_ble_eq_true rfl) dX11_hungerOf_102 ⟨Nat.zero_le _, Nat.zero_le _⟩ (fun x12 H locs ix12 hH hS hF1 => ?_)
        refine lv_if_eq (tgt := 112) hx hb dX11_hungerOf_105 (by decide) (fun c13 => ?_) (fun c13 => ?_)
        · skip
          have rlc13 : x12.toInt = (0 : Int) := congrArg Int32.toInt c13
          have ir14 : IV x12 0 0 := iv_eL c13 (iv_c (by decide) : IV 0 0 0)
          have ir14a := ir14.1; have ir14b := ir14.2
          refine lv_iconst (v := 0) hx hb dX11_hungerOf_112 (by decide) ?_
          exact J113_s1_0 H locs ls ir10 hH hS (lv_sub hl [0, 1, 3] rfl)
        · skip
          have rlc13 : x12.toInt ≠ (0 : Int) := iv_ne c13
          have ir15 : IV x12 1 1 := iv_cutL ix12 (iv_c (by decide) : IV 0 0 0) c13 (by decide)
          have ir15a := ir15.1; have ir15b := ir15.2
          refine lv_iconst (v := 2) hx hb dX11_hungerOf_108 (by decide) ?_
          refine lv_goto (tgt := 113) hx hb dX11_hungerOf_109 (by decide) ?_
          exact J113_s1_2 H locs ls ir10 hH hS (lv_sub hl [0, 1, 3] rfl)
  have J87 : ∀ (H : Heap) (locs : List Loc) (ls : Array Slot) (w87_0 : Int32), IV w87_0 0 99 → th_H D cT T (km q) H → va_S (th_A T [0, 32]) s.heap H locs → lv_has ls 4 [(0, .ref a0), (1, .int y1)] → W p l e (rmk 2 46) s m [.ref a0, .int y1].toArray below meth c H locs 0 0 (MQ below (th_Q D cT T (km q) (th_R T (some (.inl (-2147483648, 99)))) [0, 32]) [.ref a0, .int y1].toArray s 0 0 (th_A T [0, 32])) (F0 m 87 ls [.int w87_0]) := by
    intro H locs ls w87_0 iw87_0 hH hS hl
    have l1w87_0 := iw87_0.1; have l2w87_0 := iw87_0.2
    refine lv_istore_n (lv' := [(2, .int w87_0), (0, .ref a0), (1, .int y1)]) hx hb dX11_hungerOf_87 rfl hl (by decide) rfl (fun ls hl => ?_)
    refine lv_iconst (v := 0) hx hb dX11_hungerOf_88 (by decide) ?_
    refine lv_istore_n (lv' := [(3, .int 0), (2, .int w87_0), (0, .ref a0), (1, .int y1)]) hx hb dX11_hungerOf_89 rfl hl (by decide) rfl (fun ls hl => ?_)
    exact J90 ((4 + 1 - Int32.toInt 0).toNat + 1) H locs ls w87_0 0 (iv_top _) (iv_w (iv_c (by decide) : IV 0 0 0) (by decide)) hH hS (lv_sub hl [2, 3, 1, 0] rfl) (Nat.lt_succ_self _)
  have J87_s0_0 : ∀ (H : Heap) (locs : List Loc) (ls : Array Slot), th_H D cT T (km q) H → va_S (th_A T [0, 32]) s.heap H locs → lv_has ls 4 [(0, .ref a0), (1, .int y1)] → W p l e (rmk 2 46) s m [.ref a0, .int y1].toArray below meth c H locs 0 0 (MQ below (th_Q D cT T (km q) (th_R T (some (.inl (-2147483648, 99)))) [0, 32]) [.ref a0, .int y1].toArray s 0 0 (th_A T [0, 32])) (F0 m 87 ls [.int 0]) := by
    intro H locs ls hH hS hl
    refine lv_istore_n (lv' := [(2, .int 0), (0, .ref a0), (1, .int y1)]) hx hb dX11_hungerOf_87 rfl hl (by decide) rfl (fun ls hl => ?_)
    refine lv_iconst (v := 0) hx hb dX11_hungerOf_88 (by decide) ?_
    refine lv_istore_n (lv' := [(3, .int 0), (2, .int 0), (0, .ref a0), (1, .int y1)]) hx hb dX11_hungerOf_89 rfl hl (by decide) rfl (fun ls hl => ?_)
    exact J90 ((4 + 1 - Int32.toInt 0).toNat + 1) H locs ls 0 0 (iv_top _) (iv_w (iv_c (by decide) : IV 0 0 0) (by decide)) hH hS (lv_sub hl [2, 3, 1, 0] rfl) (Nat.lt_succ_self _)
  have J87_s0_99 : ∀ (H : Heap) (locs : List Loc) (ls : Array Slot), th_H D cT T (km q) H → va_S (th_A T [0, 32]) s.heap H locs → lv_has ls 4 [(0, .ref a0), (1, .int y1)] → W p l e (rmk 2 46) s m [.ref a0, .int y1].toArray below meth c H locs 0 0 (MQ below (th_Q D cT T (km q) (th_R T (some (.inl (-2147483648, 99)))) [0, 32]) [.ref a0, .int y1].toArray s 0 0 (th_A T [0, 32])) (F0 m 87 ls [.int 99]) := by
    intro H locs ls hH hS hl
    refine lv_istore_n (lv' := [(2, .int 99), (0, .ref a0), (1, .int y1)]) hx hb dX11_hungerOf_87 rfl hl (by decide) rfl (fun ls hl => ?_)
    refine lv_iconst (v := 0) hx hb dX11_hungerOf_88 (by decide) ?_
    refine lv_istore_n (lv' := [(3, .int 0), (2, .int 99), (0, .ref a0), (1, .int y1)]) hx hb dX11_hungerOf_89 rfl hl (by decide) rfl (fun ls hl => ?_)
    exact J90 ((4 + 1 - Int32.toInt 0).toNat + 1) H locs ls 99 0 (iv_top _) (iv_w (iv_c (by decide) : IV 0 0 0) (by decide)) hH hS (lv_sub hl [2, 3, 1, 0] rfl) (Nat.lt_succ_self _)
  have J0 : ∀ (H : Heap) (locs : List Loc) (ls : Array Slot), th_H D cT T (km q) H → va_S (th_A T [0, 32]) s.heap H locs → lv_has ls 4 [(0, .ref a0), (1, .int y1)] → W p l e (rmk 2 46) s m [.ref a0, .int y1].toArray below meth c H locs 0 0 (MQ below (th_Q D cT T (km q) (th_R T (some (.inl (-2147483648, 99)))) [0, 32]) [.ref a0, .int y1].toArray s 0 0 (th_A T [0, 32])) (F0 m 0 ls []) := by
    intro H locs ls hH hS hl
    refine lv_aload_n hx hb dX11_hungerOf_0 rfl (lv_at hl 0 rfl) ?_
    refine th_get S hK hH inG11 t0 km_0 rfl 52 (by decide) gm_1282 rfl rfl dX11_hungerOf_1 (fun v16 hv16 fv16 => ?_)
    obtain ⟨rf17, rfl, trf17⟩ := th_V.ref hv16
    refine lv_bipush (v := 39) hx hb dX11_hungerOf_4 (by decide) ?_
    refine th_iald S hK hH trf17 km_33 (th_in (hi := 39) (iv_w (iv_c (by decide) : IV 39 39 39) (by decide)) (by decide)) dX11_hungerOf_6 (fun v18 hv18 => ?_)
    obtain ⟨x19, rfl, ix19⟩ := th_V.int hv18
    refine lv_iload_n hx hb dX11_hungerOf_7 rfl (lv_at hl 1 rfl) ?_
    refine th_callSp (n := 2) (As := [.int x19, .int y1]) S hK hH hS (th_A.sub (by decide)) (m_X11_has l D cT T q hT hq (x19) ix19 (y1) (iv_top _)) gm_1633 gm_1631 gm_1632 gm_124 (by decide +kernel) ⟨rfl, rfl, Nat.le_of_ble_eq_true rfl, Nat.le_of_ble_eq_true rfl⟩ rfl hl.1 rfl (Nat.le_of_ble_eq_true rfl) dX11_hungerOf_8 ⟨Nat.zero_le _, Nat.zero_le _⟩ (fun x20 H locs ix20 ox20 hH hS hF1 => ?_)
    have ox20 : x20.toInt = 0 → ¬ ((x19 >>> (y1 &&& 31)) &&& 1 = 1) := ox20
    have f21 := fv16.kept (hF1 _ fv16.lt (th_off t0 (by decide)))
    refine lv_if_eq (tgt := 16) hx hb dX11_hungerOf_11 (by decide) (fun c22 => ?_) (fun c22 => ?_)
    · skip
      have rlc22 : x20.toInt = (0 : Int) := congrArg Int32.toInt c22
      have ir23 : IV x20 0 0 := iv_eL c22 (iv_c (by decide) : IV 0 0 0)
      have ir23a := ir23.1; have ir23b := ir23.2
      refine lv_aload_n hx hb dX11_hungerOf_16 rfl (lv_at hl 0 rfl) ?_
      refine lv_aload_n hx hb dX11_hungerOf_17 rfl (lv_at hl 0 rfl) ?_
      refine th_get S hK hH inG11 t0 km_0 rfl 19 (by decide) gm_1249 rfl rfl dX11_hungerOf_18 (fun v24 hv24 fv24 => ?_)
      obtain ⟨rf25, rfl, trf25⟩ := th_V.ref hv24
      refine lv_iconst (v := 4) hx hb dX11_hungerOf_21 (by decide) ?_
      refine lv_aload_n hx hb dX11_hungerOf_22 rfl (lv_at hl 0 rfl) ?_
      refine th_get S hK hH inG11 t0 km_0 rfl 41 (by decide) gm_1271 rfl rfl dX11_hungerOf_23 (fun v26 hv26 fv26 => ?_)
      obtain ⟨x27, rfl, ix27⟩ := th_V.int hv26
      have kx27a : q 10 ≤ x27.toInt := ix27.1
      have kx27b : x27.toInt ≤ q 10 := ix27.2
      have ix27 : IV x27 0 1 := iv_w ix27 (qkm_10 hq)
      refine lv_imul hx hb dX11_hungerOf_26 ?_
      refine lv_topi (fun x28 ex28 => ?_)
      have ix28 : IV x28 0 4 := by rw [ex28]; exact iv_mul (iv_c (by decide) : IV 4 4 4) ix27 (by decide) (by decide)
      have ux28 : x28.toInt = (4 : Int) * x27.toInt := by rw [ex28]; exact iv_mulE (iv_corner ((iv_c (by decide) : IV 4 4 4)).1 ((iv_c (by decide) : IV 4 4 4)).2 (ix27).1 (ix27).2 (by decide))
      refine lv_iload_n hx hb dX11_hungerOf_27 rfl (lv_at hl 1 rfl) ?_
      refine lv_iadd hx hb dX11_hungerOf_28 ?_
      refine lv_topi (fun x29 ex29 => ?_)
      have ix29 : IV x29 0 7 := by rw [ex29]; exact iv_add ix28 j1 (by decide)
      have ux29 : x29.toInt = x28.toInt + y1.toInt := by rw [ex29]; exact iv_addE (by have z1 := (ix28).1; have z2 := (ix28).2; have z3 := (j1).1; have z4 := (j1).2; omega)
      refine th_iald S hK hH trf25 km_11 (th_in (hi := 7) ix29 (by decide)) dX11_hungerOf_29 (fun v30 hv30 => ?_)
      obtain ⟨x31, rfl, ix31⟩ := th_V.int hv30
      refine th_put S hK hH hS ⟨0, by decide, t0⟩ inG11 tyX11 tyX11_ok nmX11 t0 km_0 rfl 47 (by decide) gm_1277 rfl rfl rfl rfl (th_iv ix31) (fun vs h => nmR_set h.2.2 (by decide) rfl) (ty := .int) (by decide +kernel) rfl rfl dX11_hungerOf_30 (fun H locs hH hS hq1 hp1 => ?_)
      have f32 := hp1.2 52 _ (by decide) (by decide) f21
      refine lv_aload_n hx hb dX11_hungerOf_33 rfl (lv_at hl 0 rfl) ?_
      refine lv_aload_n hx hb dX11_hungerOf_34 rfl (lv_at hl 0 rfl) ?_
      refine th_getK S hK f32 inG11 rfl (by decide) gm_1282 rfl dX11_hungerOf_35 ?_
      refine lv_bipush (v := 31) hx hb dX11_hungerOf_38 (by decide) ?_
      refine lv_iload_n hx hb dX11_hungerOf_40 rfl (lv_at hl 1 rfl) ?_
      refine lv_iadd hx hb dX11_hungerOf_41 ?_
      refine lv_topi (fun x34 ex34 => ?_)
      have ix34 : IV x34 31 34 := by rw [ex34]; exact iv_add (iv_c (by decide) : IV 31 31 31) j1 (by decide)
      have ux34 : x34.toInt = (31 : Int) + y1.toInt := by rw [ex34]; exact iv_addE (by have z1 := ((iv_c (by decide) : IV 31 31 31)).1; have z2 := ((iv_c (by decide) : IV 31 31 31)).2; have z3 := (j1).1; have z4 := (j1).2; omega)
      refine th_iald S hK hH trf17 km_33 (th_in (hi := 34) (iv_w ix34 (by decide)) (by decide)) dX11_hungerOf_42 (fun v35 hv35 => ?_)
      obtain ⟨x36, rfl, ix36⟩ := th_V.int hv35
      refine th_put S hK hH hS ⟨0, by decide, t0⟩ inG11 tyX11 tyX11_ok nmX11 t0 km_0 rfl 48 (by decide) gm_1278 rfl rfl rfl rfl (th_iv ix36) (fun vs h => nmR_set h.2.2 (by decide) rfl) (ty := .int) (by decide +kernel) rfl rfl dX11_hungerOf_43 (fun H locs hH hS hq1 hp1 => ?_)
      have f37 := hp1.2 52 _ (by decide) (by decide) f32
      refine lv_aload_n hx hb dX11_hungerOf_46 rfl (lv_at hl 0 rfl) ?_
      refine lv_iconst (v := 0) hx hb dX11_hungerOf_47 (by decide) ?_
      refine th_put S hK hH hS ⟨0, by decide, t0⟩ inG11 tyX11 tyX11_ok nmX11 t0 km_0 rfl 49 (by decide) gm_1279 rfl rfl rfl rfl (th_iv (iv_top _)) (fun vs h => nmR_set h.2.2 (by decide) rfl) (ty := .int) (by decide +kernel) rfl rfl dX11_hungerOf_48 (fun H locs hH hS hq1 hp1 => ?_)
      have f38 := hp1.2 52 _ (by decide) (by decide) f37
      refine lv_aload_n hx hb dX11_hungerOf_51 rfl (lv_at hl 0 rfl) ?_
      refine lv_iconst (v := 0) hx hb dX11_hungerOf_52 (by decide) ?_
      refine th_put S hK hH hS ⟨0, by decide, t0⟩ inG11 tyX11 tyX11_ok nmX11 t0 km_0 rfl 50 (by decide) gm_1280 rfl rfl rfl rfl (th_iv (iv_top _)) (fun vs h => nmR_set h.2.2 (by decide) rfl) (ty := .int) (by decide +kernel) rfl rfl dX11_hungerOf_53 (fun H locs hH hS hq1 hp1 => ?_)
      have f39 := hp1.2 52 _ (by decide) (by decide) f38
      refine lv_aload_n hx hb dX11_hungerOf_56 rfl (lv_at hl 0 rfl) ?_
      refine lv_iconst (v := 0) hx hb dX11_hungerOf_57 (by decide) ?_
      refine th_put S hK hH hS ⟨0, by decide, t0⟩ inG11 tyX11 tyX11_ok nmX11 t0 km_0 rfl 51 (by decide) gm_1281 rfl rfl rfl rfl (th_iv (iv_top _)) (fun vs h => nmR_set h.2.2 (by decide) rfl) (ty := .int) (by decide +kernel) rfl rfl dX11_hungerOf_58 (fun H locs hH hS hq1 hp1 => ?_)
      have f40 := hp1.2 52 _ (by decide) (by decide) f39
      refine lv_aload_n hx hb dX11_hungerOf_61 rfl (lv_at hl 0 rfl) ?_
      refine lv_iload_n hx hb dX11_hungerOf_62 rfl (lv_at hl 1 rfl) ?_
      refine th_callVi (n := 1) (As := [.int y1]) S hK hH hS (th_A.sub (by decide)) (m_X11_comes l D cT T q hT hq a0 t0 (y1) (iv_w j1 (by decide)) (show y1.toInt < q 11 ∨ (y1.toInt = 4 ∧ q 12 = 1) by omega)) gm_1637 gm_1634 gm_1636 gm_82 gm_124 (by decide +kernel) ⟨rfl, rfl, Nat.le_of_ble_eq_true rfl, Nat.le_of_ble_eq_true rfl⟩ t0 km_0 rfl rfl hl.1 rfl (Nat.le_of_ble_eq_true rfl) dX11_hungerOf_63 ⟨Nat.zero_le _, Nat.zero_le _⟩ (fun x41 H locs ix41 hH hS hF1 => ?_)
      have f42 := f40.kept (hF1 _ f40.lt (th_off t0 (by decide)))
      refine lv_istore_n (lv' := [(2, .int x41), (0, .ref a0), (1, .int y1)]) hx hb dX11_hungerOf_66 rfl hl (by decide) rfl (fun ls hl => ?_)
      refine lv_iload_n hx hb dX11_hungerOf_67 rfl (lv_at hl 0 rfl) ?_
      refine lv_if_ge (tgt := 75) hx hb dX11_hungerOf_68 (by decide) (fun c43 => ?_) (fun c43 => ?_)
      · skip
        have rlc43 : (0 : Int) ≤ x41.toInt := iv_le c43
        have ir44 : IV x41 0 2147483647 := iv_vR (iv_c (by decide) : IV 0 0 0) ix41 (iv_le c43) (by decide)
        have ir44a := ir44.1; have ir44b := ir44.2
        refine lv_iload_n hx hb dX11_hungerOf_75 rfl (lv_at hl 0 rfl) ?_
        refine lv_bipush (v := 99) hx hb dX11_hungerOf_76 (by decide) ?_
        refine lv_icmp_le (tgt := 86) hx hb dX11_hungerOf_78 (by decide) (fun c45 => ?_) (fun c45 => ?_)
        · skip
          have rlc45 : x41.toInt ≤ (99 : Int) := iv_le c45
          have ir46 : IV x41 0 99 := iv_vL ir44 (iv_c (by decide) : IV 99 99 99) (iv_le c45) (by decide)
          have ir46a := ir46.1; have ir46b := ir46.2
          refine lv_iload_n hx hb dX11_hungerOf_86 rfl (lv_at hl 0 rfl) ?_
          exact J87 H locs ls x41 ir46 hH hS (lv_sub hl [1, 2] rfl)
        · skip
          have rlc45 : (99 : Int) < x41.toInt := iv_nle c45
          have ir47 : IV x41 100 2147483647 := iv_uR (iv_c (by decide) : IV 99 99 99) ir44 (iv_nle c45) (by decide)
          have ir47a := ir47.1; have ir47b := ir47.2
          refine lv_bipush (v := 99) hx hb dX11_hungerOf_81 (by decide) ?_
          refine lv_goto (tgt := 87) hx hb dX11_hungerOf_83 (by decide) ?_
          exact J87_s0_99 H locs ls  hH hS (lv_sub hl [1, 2] rfl)
      · skip
        have rlc43 : x41.toInt < (0 : Int) := iv_nle c43
        have ir48 : IV x41 (-2147483648) (-1) := iv_uL ix41 (iv_c (by decide) : IV 0 0 0) (iv_nle c43) (by decide)
        have ir48a := ir48.1; have ir48b := ir48.2
        refine lv_iconst (v := 0) hx hb dX11_hungerOf_71 (by decide) ?_
        refine lv_goto (tgt := 87) hx hb dX11_hungerOf_72 (by decide) ?_
        exact J87_s0_0 H locs ls  hH hS (lv_sub hl [1, 2] rfl)
    · skip
      have rlc22 : x20.toInt ≠ (0 : Int) := iv_ne c22
      have ir49 : IV x20 1 1 := iv_cutL ix20 (iv_c (by decide) : IV 0 0 0) c22 (by decide)
      have ir49a := ir49.1; have ir49b := ir49.2
      refine lv_iconst (v := 0) hx hb dX11_hungerOf_14 (by decide) ?_
      exact th_iret S hK hH hS hr hlocks (th_R.i (iv_w (iv_c (by decide) : IV 0 0 0) (by decide))) dX11_hungerOf_15
  exact J0 s.heap [] ls hH va_S.rf hl

set_option maxRecDepth 100000 in
theorem m_X11_tasteOf (l : Launch) (D : va_G) (cT : Nat → ClassId) (T : Nat → Option Nat) (q : Nat → Int) (hT : tokm T) (hq : qkm q) (a0 : Nat) (t0 : T a0 = some 0) (y1 : Int32) (j1 : IV y1 0 7) (y2 : Int32) (j2 : IV y2 0 3) : th_Met l D cT T (km q) yX11_tasteOf cX11_tasteOf 3 (some .int) (rmk 2 46) [.ref a0, .int y1, .int y2] (th_R T (some (.inl (-2147483648, 2147483647)))) [0, 32] := by
  refine th_start (by decide) (Nat.le_of_ble_eq_true rfl) ?_
  intro p e s m below meth c ls S hK hH hr hlocks hnm hl
  have hx := S.1
  have hb := S.2.1
  have l1y1 := j1.1; have l2y1 := j1.2
  have l1y2 := j2.1; have l2y2 := j2.2
  have hl : lv_has ls 3 [(0, .ref a0), (1, .int y1), (2, .int y2)] := hl
  have J0 : ∀ (H : Heap) (locs : List Loc) (ls : Array Slot), th_H D cT T (km q) H → va_S (th_A T [0, 32]) s.heap H locs → lv_has ls 3 [(0, .ref a0), (1, .int y1), (2, .int y2)] → W p l e (rmk 2 46) s m [.ref a0, .int y1, .int y2].toArray below meth c H locs 0 0 (MQ below (th_Q D cT T (km q) (th_R T (some (.inl (-2147483648, 2147483647)))) [0, 32]) [.ref a0, .int y1, .int y2].toArray s 0 0 (th_A T [0, 32])) (F0 m 0 ls []) := by
    intro H locs ls hH hS hl
    refine lv_aload_n hx hb dX11_tasteOf_0 rfl (lv_at hl 0 rfl) ?_
    refine th_get S hK hH inG11 t0 km_0 rfl 30 (by decide) gm_1260 rfl rfl dX11_tasteOf_1 (fun v1 hv1 fv1 => ?_)
    obtain ⟨rf2, rfl, trf2⟩ := th_V.ref hv1
    refine lv_aload_n hx hb dX11_tasteOf_4 rfl (lv_at hl 0 rfl) ?_
    refine th_get S hK hH inG11 t0 km_0 rfl 41 (by decide) gm_1271 rfl rfl dX11_tasteOf_5 (fun v3 hv3 fv3 => ?_)
    obtain ⟨x4, rfl, ix4⟩ := th_V.int hv3
    have kx4a : q 10 ≤ x4.toInt := ix4.1
    have kx4b : x4.toInt ≤ q 10 := ix4.2
    have ix4 : IV x4 0 1 := iv_w ix4 (qkm_10 hq)
    refine th_zald S hK hH trf2 km_22 (th_in (hi := 1) ix4 (by decide)) dX11_tasteOf_8 (fun v5 hv5 => ?_)
    obtain ⟨x6, rfl, ix6⟩ := th_bkA hv5 ix4 (by omega)
    have kx6a : q 12 ≤ x6.toInt := ix6.1
    have kx6b : x6.toInt ≤ q 12 := ix6.2
    have ix6 : IV x6 0 1 := iv_w ix6 (qkm_12 hq)
    refine lv_if_ne (tgt := 22) hx hb dX11_tasteOf_9 (by decide) (fun c7 => ?_) (fun c7 => ?_)
    · skip
      have rlc7 : x6.toInt ≠ (0 : Int) := iv_ne c7
      have ir8 : IV x6 1 1 := iv_cutL ix6 (iv_c (by decide) : IV 0 0 0) c7 (by decide)
      have ir8a := ir8.1; have ir8b := ir8.2
      refine lv_aload_n hx hb dX11_tasteOf_22 rfl (lv_at hl 0 rfl) ?_
      refine lv_aload_n hx hb dX11_tasteOf_23 rfl (lv_at hl 0 rfl) ?_
      refine th_get S hK hH inG11 t0 km_0 rfl 19 (by decide) gm_1249 rfl rfl dX11_tasteOf_24 (fun v9 hv9 fv9 => ?_)
      obtain ⟨rf10, rfl, trf10⟩ := th_V.ref hv9
      refine lv_iconst (v := 4) hx hb dX11_tasteOf_27 (by decide) ?_
      refine lv_aload_n hx hb dX11_tasteOf_28 rfl (lv_at hl 0 rfl) ?_
      refine th_get S hK hH inG11 t0 km_0 rfl 41 (by decide) gm_1271 rfl rfl dX11_tasteOf_29 (fun v11 hv11 fv11 => ?_)
      obtain ⟨x12, rfl, ix12⟩ := th_V.int hv11
      have kx12a : q 10 ≤ x12.toInt := ix12.1
      have kx12b : x12.toInt ≤ q 10 := ix12.2
      have ix12 : IV x12 0 1 := iv_w ix12 (qkm_10 hq)
      refine lv_imul hx hb dX11_tasteOf_32 ?_
      refine lv_topi (fun x13 ex13 => ?_)
      have ix13 : IV x13 0 4 := by rw [ex13]; exact iv_mul (iv_c (by decide) : IV 4 4 4) ix12 (by decide) (by decide)
      have ux13 : x13.toInt = (4 : Int) * x12.toInt := by rw [ex13]; exact iv_mulE (iv_corner ((iv_c (by decide) : IV 4 4 4)).1 ((iv_c (by decide) : IV 4 4 4)).2 (ix12).1 (ix12).2 (by decide))
      refine lv_iload_n hx hb dX11_tasteOf_33 rfl (lv_at hl 2 rfl) ?_
      refine lv_iadd hx hb dX11_tasteOf_34 ?_
      refine lv_topi (fun x14 ex14 => ?_)
      have ix14 : IV x14 0 7 := by rw [ex14]; exact iv_add ix13 j2 (by decide)
      have ux14 : x14.toInt = x13.toInt + y2.toInt := by rw [ex14]; exact iv_addE (by have z1 := (ix13).1; have z2 := (ix13).2; have z3 := (j2).1; have z4 := (j2).2; omega)
      refine th_iald S hK hH trf10 km_11 (th_in (hi := 7) ix14 (by decide)) dX11_tasteOf_35 (fun v15 hv15 => ?_)
      obtain ⟨x16, rfl, ix16⟩ := th_V.int hv15
      refine th_put S hK hH hS ⟨0, by decide, t0⟩ inG11 tyX11 tyX11_ok nmX11 t0 km_0 rfl 47 (by decide) gm_1277 rfl rfl rfl rfl (th_iv ix16) (fun vs h => nmR_set h.2.2 (by decide) rfl) (ty := .int) (by decide +kernel) rfl rfl dX11_tasteOf_36 (fun H locs hH hS hq1 hp1 => ?_)
      refine lv_aload_n hx hb dX11_tasteOf_39 rfl (lv_at hl 0 rfl) ?_
      refine lv_aload_n hx hb dX11_tasteOf_40 rfl (lv_at hl 0 rfl) ?_
      refine th_get S hK hH inG11 t0 km_0 rfl 52 (by decide) gm_1282 rfl rfl dX11_tasteOf_41 (fun v17 hv17 fv17 => ?_)
      obtain ⟨rf18, rfl, trf18⟩ := th_V.ref hv17
      refine lv_bipush (v := 31) hx hb dX11_tasteOf_44 (by decide) ?_
      refine lv_iload_n hx hb dX11_tasteOf_46 rfl (lv_at hl 2 rfl) ?_
      refine lv_iadd hx hb dX11_tasteOf_47 ?_
      refine lv_topi (fun x19 ex19 => ?_)
      have ix19 : IV x19 31 34 := by rw [ex19]; exact iv_add (iv_c (by decide) : IV 31 31 31) j2 (by decide)
      have ux19 : x19.toInt = (31 : Int) + y2.toInt := by rw [ex19]; exact iv_addE (by have z1 := ((iv_c (by decide) : IV 31 31 31)).1; have z2 := ((iv_c (by decide) : IV 31 31 31)).2; have z3 := (j2).1; have z4 := (j2).2; omega)
      refine th_iald S hK hH trf18 km_33 (th_in (hi := 34) (iv_w ix19 (by decide)) (by decide)) dX11_tasteOf_48 (fun v20 hv20 => ?_)
      obtain ⟨x21, rfl, ix21⟩ := th_V.int hv20
      refine th_put S hK hH hS ⟨0, by decide, t0⟩ inG11 tyX11 tyX11_ok nmX11 t0 km_0 rfl 48 (by decide) gm_1278 rfl rfl rfl rfl (th_iv ix21) (fun vs h => nmR_set h.2.2 (by decide) rfl) (ty := .int) (by decide +kernel) rfl rfl dX11_tasteOf_49 (fun H locs hH hS hq1 hp1 => ?_)
      have f22 := hp1.2 52 _ (by decide) (by decide) fv17
      refine lv_aload_n hx hb dX11_tasteOf_52 rfl (lv_at hl 0 rfl) ?_
      refine lv_aload_n hx hb dX11_tasteOf_53 rfl (lv_at hl 0 rfl) ?_
      refine th_getK S hK f22 inG11 rfl (by decide) gm_1282 rfl dX11_tasteOf_54 ?_
      refine lv_bipush (v := 15) hx hb dX11_tasteOf_57 (by decide) ?_
      refine lv_iload_n hx hb dX11_tasteOf_59 rfl (lv_at hl 1 rfl) ?_
      refine lv_iadd hx hb dX11_tasteOf_60 ?_
      refine lv_topi (fun x24 ex24 => ?_)
      have ix24 : IV x24 15 22 := by rw [ex24]; exact iv_add (iv_c (by decide) : IV 15 15 15) j1 (by decide)
      have ux24 : x24.toInt = (15 : Int) + y1.toInt := by rw [ex24]; exact iv_addE (by have z1 := ((iv_c (by decide) : IV 15 15 15)).1; have z2 := ((iv_c (by decide) : IV 15 15 15)).2; have z3 := (j1).1; have z4 := (j1).2; omega)
      refine th_iald S hK hH trf18 km_33 (th_in (hi := 22) (iv_w ix24 (by decide)) (by decide)) dX11_tasteOf_61 (fun v25 hv25 => ?_)
      obtain ⟨x26, rfl, ix26⟩ := th_V.int hv25
      refine th_put S hK hH hS ⟨0, by decide, t0⟩ inG11 tyX11 tyX11_ok nmX11 t0 km_0 rfl 49 (by decide) gm_1279 rfl rfl rfl rfl (th_iv ix26) (fun vs h => nmR_set h.2.2 (by decide) rfl) (ty := .int) (by decide +kernel) rfl rfl dX11_tasteOf_62 (fun H locs hH hS hq1 hp1 => ?_)
      have f27 := hp1.2 52 _ (by decide) (by decide) f22
      refine lv_aload_n hx hb dX11_tasteOf_65 rfl (lv_at hl 0 rfl) ?_
      refine lv_aload_n hx hb dX11_tasteOf_66 rfl (lv_at hl 0 rfl) ?_
      refine th_get S hK hH inG11 t0 km_0 rfl 24 (by decide) gm_1254 rfl rfl dX11_tasteOf_67 (fun v28 hv28 fv28 => ?_)
      obtain ⟨rf29, rfl, trf29⟩ := th_V.ref hv28
      refine lv_bipush (v := 8) hx hb dX11_tasteOf_70 (by decide) ?_
      refine lv_aload_n hx hb dX11_tasteOf_72 rfl (lv_at hl 0 rfl) ?_
      refine th_get S hK hH inG11 t0 km_0 rfl 41 (by decide) gm_1271 rfl rfl dX11_tasteOf_73 (fun v30 hv30 fv30 => ?_)
      obtain ⟨x31, rfl, ix31⟩ := th_V.int hv30
      have kx31a : q 10 ≤ x31.toInt := ix31.1
      have kx31b : x31.toInt ≤ q 10 := ix31.2
      have ix31 : IV x31 0 1 := iv_w ix31 (qkm_10 hq)
      refine lv_imul hx hb dX11_tasteOf_76 ?_
      refine lv_topi (fun x32 ex32 => ?_)
      have ix32 : IV x32 0 8 := by rw [ex32]; exact iv_mul (iv_c (by decide) : IV 8 8 8) ix31 (by decide) (by decide)
      have ux32 : x32.toInt = (8 : Int) * x31.toInt := by rw [ex32]; exact iv_mulE (iv_corner ((iv_c (by decide) : IV 8 8 8)).1 ((iv_c (by decide) : IV 8 8 8)).2 (ix31).1 (ix31).2 (by decide))
      refine lv_iload_n hx hb dX11_tasteOf_77 rfl (lv_at hl 1 rfl) ?_
      refine lv_iadd hx hb dX11_tasteOf_78 ?_
      refine lv_topi (fun x33 ex33 => ?_)
      have ix33 : IV x33 0 15 := by rw [ex33]; exact iv_add ix32 j1 (by decide)
      have ux33 : x33.toInt = x32.toInt + y1.toInt := by rw [ex33]; exact iv_addE (by have z1 := (ix32).1; have z2 := (ix32).2; have z3 := (j1).1; have z4 := (j1).2; omega)
      refine th_iald S hK hH trf29 km_16 (th_in (hi := 15) ix33 (by decide)) dX11_tasteOf_79 (fun v34 hv34 => ?_)
      obtain ⟨x35, rfl, ix35⟩ := th_V.int hv34
      refine th_put S hK hH hS ⟨0, by decide, t0⟩ inG11 tyX11 tyX11_ok nmX11 t0 km_0 rfl 50 (by decide) gm_1280 rfl rfl rfl rfl (th_iv ix35) (fun vs h => nmR_set h.2.2 (by decide) rfl) (ty := .int) (by decide +kernel) rfl rfl dX11_tasteOf_80 (fun H locs hH hS hq1 hp1 => ?_)
      have f36 := hp1.2 52 _ (by decide) (by decide) f27
      refine lv_aload_n hx hb dX11_tasteOf_83 rfl (lv_at hl 0 rfl) ?_
      refine lv_aload_n hx hb dX11_tasteOf_84 rfl (lv_at hl 0 rfl) ?_
      refine th_getK S hK f36 inG11 rfl (by decide) gm_1282 rfl dX11_tasteOf_85 ?_
      refine lv_bipush (v := 23) hx hb dX11_tasteOf_88 (by decide) ?_
      refine lv_iload_n hx hb dX11_tasteOf_90 rfl (lv_at hl 1 rfl) ?_
      refine lv_iadd hx hb dX11_tasteOf_91 ?_
      refine lv_topi (fun x38 ex38 => ?_)
      have ix38 : IV x38 23 30 := by rw [ex38]; exact iv_add (iv_c (by decide) : IV 23 23 23) j1 (by decide)
      have ux38 : x38.toInt = (23 : Int) + y1.toInt := by rw [ex38]; exact iv_addE (by have z1 := ((iv_c (by decide) : IV 23 23 23)).1; have z2 := ((iv_c (by decide) : IV 23 23 23)).2; have z3 := (j1).1; have z4 := (j1).2; omega)
      refine th_iald S hK hH trf18 km_33 (th_in (hi := 30) (iv_w ix38 (by decide)) (by decide)) dX11_tasteOf_92 (fun v39 hv39 => ?_)
      obtain ⟨x40, rfl, ix40⟩ := th_V.int hv39
      refine th_put S hK hH hS ⟨0, by decide, t0⟩ inG11 tyX11 tyX11_ok nmX11 t0 km_0 rfl 51 (by decide) gm_1281 rfl rfl rfl rfl (th_iv ix40) (fun vs h => nmR_set h.2.2 (by decide) rfl) (ty := .int) (by decide +kernel) rfl rfl dX11_tasteOf_93 (fun H locs hH hS hq1 hp1 => ?_)
      have f41 := hp1.2 52 _ (by decide) (by decide) f36
      refine lv_aload_n hx hb dX11_tasteOf_96 rfl (lv_at hl 0 rfl) ?_
      refine lv_iconst (v := 4) hx hb dX11_tasteOf_97 (by decide) ?_
      refine th_callVi (n := 1) (As := [.int 4]) S hK hH hS (th_A.sub (by decide)) (m_X11_comes l D cT T q hT hq a0 t0 (4) (iv_w (iv_c (by decide) : IV 4 4 4) (by decide)) (show (4 : Int) < q 11 ∨ ((4 : Int) = 4 ∧ q 12 = 1) by omega)) gm_1637 gm_1634 gm_1636 gm_82 gm_124 (by decide +kernel) ⟨rfl, rfl, Nat.le_of_ble_eq_true rfl, Nat.le_of_ble_eq_true rfl⟩ t0 km_0 rfl rfl hl.1 rfl (Nat.le_of_ble_eq_true rfl) dX11_tasteOf_98 ⟨Nat.zero_le _, Nat.zero_le _⟩ (fun x42 H locs ix42 hH hS hF1 => ?_)
      have f43 := f41.kept (hF1 _ f41.lt (th_off t0 (by decide)))
      exact th_iret S hK hH hS hr hlocks (th_R.i ix42) dX11_tasteOf_101
    · skip
      have rlc7 : x6.toInt = (0 : Int) := congrArg Int32.toInt c7
      have ir44 : IV x6 0 0 := iv_eL c7 (iv_c (by decide) : IV 0 0 0)
      have ir44a := ir44.1; have ir44b := ir44.2
      refine lv_aload_n hx hb dX11_tasteOf_12 rfl (lv_at hl 0 rfl) ?_
      refine th_get S hK hH inG11 t0 km_0 rfl 52 (by decide) gm_1282 rfl rfl dX11_tasteOf_13 (fun v45 hv45 fv45 => ?_)
      obtain ⟨rf46, rfl, trf46⟩ := th_V.ref hv45
      refine lv_bipush (v := 15) hx hb dX11_tasteOf_16 (by decide) ?_
      refine lv_iload_n hx hb dX11_tasteOf_18 rfl (lv_at hl 1 rfl) ?_
      refine lv_iadd hx hb dX11_tasteOf_19 ?_
      refine lv_topi (fun x47 ex47 => ?_)
      have ix47 : IV x47 15 22 := by rw [ex47]; exact iv_add (iv_c (by decide) : IV 15 15 15) j1 (by decide)
      have ux47 : x47.toInt = (15 : Int) + y1.toInt := by rw [ex47]; exact iv_addE (by have z1 := ((iv_c (by decide) : IV 15 15 15)).1; have z2 := ((iv_c (by decide) : IV 15 15 15)).2; have z3 := (j1).1; have z4 := (j1).2; omega)
      refine th_iald S hK hH trf46 km_33 (th_in (hi := 22) (iv_w ix47 (by decide)) (by decide)) dX11_tasteOf_20 (fun v48 hv48 => ?_)
      obtain ⟨x49, rfl, ix49⟩ := th_V.int hv48
      exact th_iret S hK hH hS hr hlocks (th_R.i ix49) dX11_tasteOf_21
  exact J0 s.heap [] ls hH va_S.rf hl

set_option maxRecDepth 100000 in
theorem m_X11_givenTo (l : Launch) (D : va_G) (cT : Nat → ClassId) (T : Nat → Option Nat) (q : Nat → Int) (hT : tokm T) (hq : qkm q) (a0 : Nat) (t0 : T a0 = some 0) (y1 : Int32) (j1 : IV y1 0 3) : th_Met l D cT T (km q) yX11_givenTo cX11_givenTo 4 (some .int) (rmk 1 22) [.ref a0, .int y1] (th_R T (some (.inl (-2147483648, 2147483647)))) [] := by
  refine th_start (by decide) (Nat.le_of_ble_eq_true rfl) ?_
  intro p e s m below meth c ls S hK hH hr hlocks hnm hl
  have hx := S.1
  have hb := S.2.1
  have l1y1 := j1.1; have l2y1 := j1.2
  have hl : lv_has ls 4 [(0, .ref a0), (1, .int y1)] := hl
  have J4 : ∀ (n : Nat) (H : Heap) (locs : List Loc) (ls : Array Slot) (v4_2 : Int32) (v4_3 : Int32), IV v4_2 (-2147483648) 2147483647 → IV v4_3 0 3 → th_H D cT T (km q) H → va_S (th_A T []) s.heap H locs → lv_has ls 4 [(0, .ref a0), (1, .int y1), (2, .int v4_2), (3, .int v4_3)] → (3 + 1 - Int32.toInt v4_3).toNat < n → W p l e (rmk 1 22) s m [.ref a0, .int y1].toArray below meth c H locs 0 0 (MQ below (th_Q D cT T (km q) (th_R T (some (.inl (-2147483648, 2147483647)))) []) [.ref a0, .int y1].toArray s 0 0 (th_A T [])) (F0 m 4 ls []) := by
    intro n
    induction n with
    | zero => intro H locs ls v4_2 v4_3 iv4_2 iv4_3 hH hS hl hn; exact absurd hn (Nat.not_lt_zero _)
    | succ n ih4 =>
      intro H locs ls v4_2 v4_3 iv4_2 iv4_3 hH hS hl hn4
      have l1v4_3 := iv4_3.1; have l2v4_3 := iv4_3.2
      refine lv_iload_n hx hb dX11_givenTo_4 rfl (lv_at hl 3 rfl) ?_
      refine lv_aload_n hx hb dX11_givenTo_5 rfl (lv_at hl 0 rfl) ?_
      refine th_get S hK hH inG11 t0 km_0 rfl 11 (by decide) gm_1241 rfl rfl dX11_givenTo_6 (fun v1 hv1 fv1 => ?_)
      obtain ⟨rf2, rfl, trf2⟩ := th_V.ref hv1
      refine lv_aload_n hx hb dX11_givenTo_9 rfl (lv_at hl 0 rfl) ?_
      refine th_get S hK hH inG11 t0 km_0 rfl 41 (by decide) gm_1271 rfl rfl dX11_givenTo_10 (fun v3 hv3 fv3 => ?_)
      obtain ⟨x4, rfl, ix4⟩ := th_V.int hv3
      have kx4a : q 10 ≤ x4.toInt := ix4.1
      have kx4b : x4.toInt ≤ q 10 := ix4.2
      have ix4 : IV x4 0 1 := iv_w ix4 (qkm_10 hq)
      refine th_iald S hK hH trf2 km_3 (th_in (hi := 1) ix4 (by decide)) dX11_givenTo_13 (fun v5 hv5 => ?_)
      obtain ⟨x6, rfl, ix6⟩ := th_bkA hv5 ix4 (by omega)
      have kx6a : q 16 ≤ x6.toInt := ix6.1
      have kx6b : x6.toInt ≤ q 16 := ix6.2
      have ix6 : IV x6 0 3 := iv_w ix6 (qkm_16 hq)
      refine lv_icmp_ge (tgt := 45) hx hb dX11_givenTo_14 (by decide) (fun c7 => ?_) (fun c7 => ?_)
      · skip
        have rlc7 : x6.toInt ≤ v4_3.toInt := iv_le c7
        refine lv_iload_n hx hb dX11_givenTo_45 rfl (lv_at hl 2 rfl) ?_
        exact th_iret S hK hH hS hr hlocks (th_R.i iv4_2) dX11_givenTo_46
      · skip
        have rlc7 : v4_3.toInt < x6.toInt := iv_nle c7
        have ir8 : IV v4_3 0 2 := iv_uL iv4_3 ix6 (iv_nle c7) (by decide)
        have ir8a := ir8.1; have ir8b := ir8.2
        have ir9 : IV x6 1 3 := iv_uR iv4_3 ix6 (iv_nle c7) (by decide)
        have ir9a := ir9.1; have ir9b := ir9.2
        refine lv_iload_n hx hb dX11_givenTo_17 rfl (lv_at hl 2 rfl) ?_
        refine lv_aload_n hx hb dX11_givenTo_18 rfl (lv_at hl 0 rfl) ?_
        refine th_get S hK hH inG11 t0 km_0 rfl 52 (by decide) gm_1282 rfl rfl dX11_givenTo_19 (fun v10 hv10 fv10 => ?_)
        obtain ⟨rf11, rfl, trf11⟩ := th_V.ref hv10
        refine lv_iconst (v := 3) hx hb dX11_givenTo_22 (by decide) ?_
        refine lv_iconst (v := 3) hx hb dX11_givenTo_23 (by decide) ?_
        refine lv_iload_n hx hb dX11_givenTo_24 rfl (lv_at hl 1 rfl) ?_
        refine lv_imul hx hb dX11_givenTo_25 ?_
        refine lv_topi (fun x12 ex12 => ?_)
        have ix12 : IV x12 0 9 := by rw [ex12]; exact iv_mul (iv_c (by decide) : IV 3 3 3) j1 (by decide) (by decide)
        have ux12 : x12.toInt = (3 : Int) * y1.toInt := by rw [ex12]; exact iv_mulE (iv_corner ((iv_c (by decide) : IV 3 3 3)).1 ((iv_c (by decide) : IV 3 3 3)).2 (j1).1 (j1).2 (by decide))
        refine lv_iadd hx hb dX11_givenTo_26 ?_
        refine lv_topi (fun x13 ex13 => ?_)
        have ix13 : IV x13 3 12 := by rw [ex13]; exact iv_add (iv_c (by decide) : IV 3 3 3) ix12 (by decide)
        have ux13 : x13.toInt = (3 : Int) + x12.toInt := by rw [ex13]; exact iv_addE (by have z1 := ((iv_c (by decide) : IV 3 3 3)).1; have z2 := ((iv_c (by decide) : IV 3 3 3)).2; have z3 := (ix12).1; have z4 := (ix12).2; omega)
        refine lv_iload_n hx hb dX11_givenTo_27 rfl (lv_at hl 3 rfl) ?_
        refine lv_iadd hx hb dX11_givenTo_28 ?_
        refine lv_topi (fun x14 ex14 => ?_)
        have ix14 : IV x14 3 14 := by rw [ex14]; exact iv_add ix13 ir8 (by decide)
        have ux14 : x14.toInt = x13.toInt + v4_3.toInt := by rw [ex14]; exact iv_addE (by have z1 := (ix13).1; have z2 := (ix13).2; have z3 := (ir8).1; have z4 := (ir8).2; omega)
        refine th_iald S hK hH trf11 km_33 (th_in (hi := 14) (iv_w ix14 (by decide)) (by decide)) dX11_givenTo_29 (fun v15 hv15 => ?_)
        obtain ⟨x16, rfl, ix16⟩ := th_V.int hv15
        refine lv_aload_n hx hb dX11_givenTo_30 rfl (lv_at hl 0 rfl) ?_
        refine lv_iload_n hx hb dX11_givenTo_31 rfl (lv_at hl 1 rfl) ?_
        refine lv_iload_n hx hb dX11_givenTo_32 rfl (lv_at hl 3 rfl) ?_
        refine th_callVi (n := 2) (As := [.int y1, .int v4_3]) S hK hH hS (th_A.sub (by decide)) (m_X11_likedBy l D cT T q hT hq a0 t0 (y1) j1 (v4_3) ir8) gm_1656 gm_1653 gm_1655 gm_86 gm_124 (by decide +kernel) ⟨rfl, rfl, Nat.le_of_ble_eq_true rfl, Nat.le_of_ble_eq_true rfl⟩ t0 km_0 rfl rfl hl.1 rfl (Nat.le_of_ble_eq_true rfl) dX11_givenTo_33 ⟨Nat.zero_le _, Nat.zero_le _⟩ (fun x17 H locs ix17 hH hS hF1 => ?_)
        refine lv_imul hx hb dX11_givenTo_36 ?_
        refine lv_topi (fun x18 ex18 => ?_)
        have ix18 := iv_top x18
        refine lv_iadd hx hb dX11_givenTo_37 ?_
        refine lv_topi (fun x19 ex19 => ?_)
        have ix19 := iv_top x19
        refine lv_istore_n (lv' := [(2, .int x19), (0, .ref a0), (1, .int y1), (3, .int v4_3)]) hx hb dX11_givenTo_38 rfl hl (by decide) rfl (fun ls hl => ?_)
        refine th_iinc S dX11_givenTo_39 hl (k := 3) rfl (by decide) ir8 (by decide) (fun x20 ls ex20 ix20 hl => ?_)
        have hl : lv_has ls 4 [(3, .int x20), (2, .int x19), (0, .ref a0), (1, .int y1)] := hl
        have ix20 : IV x20 1 3 := ix20
        refine lv_goto (tgt := 4) hx hb dX11_givenTo_42 (by decide) ?_
        exact ih4 H locs ls x19 x20 ix19 (iv_w ix20 (by decide)) hH hS (lv_sub hl [2, 3, 1, 0] rfl) (th_up iv4_3 ex20 (by decide) hn4)
  have J0 : ∀ (H : Heap) (locs : List Loc) (ls : Array Slot), th_H D cT T (km q) H → va_S (th_A T []) s.heap H locs → lv_has ls 4 [(0, .ref a0), (1, .int y1)] → W p l e (rmk 1 22) s m [.ref a0, .int y1].toArray below meth c H locs 0 0 (MQ below (th_Q D cT T (km q) (th_R T (some (.inl (-2147483648, 2147483647)))) []) [.ref a0, .int y1].toArray s 0 0 (th_A T [])) (F0 m 0 ls []) := by
    intro H locs ls hH hS hl
    refine lv_iconst (v := 0) hx hb dX11_givenTo_0 (by decide) ?_
    refine lv_istore_n (lv' := [(2, .int 0), (0, .ref a0), (1, .int y1)]) hx hb dX11_givenTo_1 rfl hl (by decide) rfl (fun ls hl => ?_)
    refine lv_iconst (v := 0) hx hb dX11_givenTo_2 (by decide) ?_
    refine lv_istore_n (lv' := [(3, .int 0), (2, .int 0), (0, .ref a0), (1, .int y1)]) hx hb dX11_givenTo_3 rfl hl (by decide) rfl (fun ls hl => ?_)
    exact J4 ((3 + 1 - Int32.toInt 0).toNat + 1) H locs ls 0 0 (iv_top _) (iv_w (iv_c (by decide) : IV 0 0 0) (by decide)) hH hS (lv_sub hl [2, 3, 1, 0] rfl) (Nat.lt_succ_self _)
  exact J0 s.heap [] ls hH va_S.rf hl

set_option maxRecDepth 100000 in
theorem m_X11_bite (l : Launch) (D : va_G) (cT : Nat → ClassId) (T : Nat → Option Nat) (q : Nat → Int) (hT : tokm T) (hq : qkm q) (a0 : Nat) (t0 : T a0 = some 0) (y1 : Int32) (j1 : IV y1 0 3) (y2 : Int32) (j2 : IV y2 (-2147483648) 2147483647) : th_Met l D cT T (km q) yX11_bite cX11_bite 8 none (rmk 3 68) [.ref a0, .int y1, .int y2] (th_R T none) [0, 32, 33] := by
  refine th_start (by decide) (Nat.le_of_ble_eq_true rfl) ?_
  intro p e s m below meth c ls S hK hH hr hlocks hnm hl
  have hx := S.1
  have hb := S.2.1
  have l1y1 := j1.1; have l2y1 := j1.2
  obtain ⟨aA, tA⟩ := all_at hH t0
  have hl : lv_has ls 8 [(0, .ref a0), (1, .int y1), (2, .int y2)] := hl
  have J2 : ∀ (n : Nat) (H : Heap) (locs : List Loc) (ls : Array Slot) (v2_3 : Int32) (N : Nat), IV v2_3 (-2147483648) 2147483647 → (bst cT H aA N (-1)) → th_H D cT T (km q) H → va_S (th_A T [0, 32, 33]) s.heap H locs → lv_has ls 8 [(0, .ref a0), (1, .int y1), (3, .int v2_3)] → 2 * N + lf v2_3.toInt < n → W p l e (rmk 3 68) s m [.ref a0, .int y1, .int y2].toArray below meth c H locs 0 0 (MQ below (th_Q D cT T (km q) (th_R T none) [0, 32, 33]) [.ref a0, .int y1, .int y2].toArray s 0 0 (th_A T [0, 32, 33])) (F0 m 2 ls []) := by
    intro n
    induction n with
    | zero => intro H locs ls v2_3 N iv2_3 v2_inv0 hH hS hl hn; exact absurd hn (Nat.not_lt_zero _)
    | succ n ih2 =>
      intro H locs ls v2_3 N iv2_3 v2_inv0 hH hS hl hn2
      have J127 : ∀ (H : Heap) (locs : List Loc) (ls : Array Slot) (v127_4 : Int32) (w127_0 : Int32), IV v127_4 0 7 → IV w127_0 (-2147483648) 2147483647 → IV v2_3 1 2147483647 → (bnn cT H aA N v127_4.toInt w127_0 v2_3) → (0 < v2_3.toInt) → th_H D cT T (km q) H → va_S (th_A T [0, 32, 33]) s.heap H locs → lv_has ls 8 [(0, .ref a0), (1, .int y1), (3, .int v2_3), (4, .int v127_4)] → W p l e (rmk 3 68) s m [.ref a0, .int y1, .int y2].toArray below meth c H locs 0 0 (MQ below (th_Q D cT T (km q) (th_R T none) [0, 32, 33]) [.ref a0, .int y1, .int y2].toArray s 0 0 (th_A T [0, 32, 33])) (F0 m 127 ls [.int w127_0]) := by
        intro H locs ls v127_4 w127_0 iv127_4 iw127_0 f127_v2_3 v127_inv0 v127_inv1 hH hS hl
        have l1v127_4 := iv127_4.1; have l2v127_4 := iv127_4.2
        refine lv_istore (lv' := [(6, .int w127_0), (0, .ref a0), (1, .int y1), (3, .int v2_3), (4, .int v127_4)]) hx hb dX11_bite_127 hl (by decide) rfl (fun ls hl => ?_)
        refine lv_aload_n hx hb dX11_bite_129 rfl (lv_at hl 1 rfl) ?_
        refine th_get S hK hH inG11 t0 km_0 rfl 52 (by decide) gm_1282 rfl rfl dX11_bite_130 (fun v1 hv1 fv1 => ?_)
        obtain ⟨rf2, rfl, trf2⟩ := th_V.ref hv1
        have z3 := (mo_of hT tA _ trf2).symm
        subst z3
        refine lv_bipush (v := 15) hx hb dX11_bite_133 (by decide) ?_
        refine lv_iload hx hb dX11_bite_135 (lv_at hl 4 rfl) ?_
        refine lv_iadd hx hb dX11_bite_137 ?_
        refine lv_topi (fun x4 ex4 => ?_)
        have ix4 : IV x4 15 22 := by rw [ex4]; exact iv_add (iv_c (by decide) : IV 15 15 15) iv127_4 (by decide)
        have ux4 : x4.toInt = (15 : Int) + v127_4.toInt := by rw [ex4]; exact iv_addE (by have z1 := ((iv_c (by decide) : IV 15 15 15)).1; have z2 := ((iv_c (by decide) : IV 15 15 15)).2; have z3 := (iv127_4).1; have z4 := (iv127_4).2; omega)
        refine lv_dup2_11 hx hb dX11_bite_138 rfl rfl ?_
        refine th_ialdE S hK hH tA km_33 (th_in (hi := 22) (iv_w ix4 (by decide)) (by decide)) dX11_bite_139 (fun v5 hv5 mx6 => ?_)
        obtain ⟨x6, rfl, ix6⟩ := th_V.int hv5
        have jx6 := th_nat (hi := 22) (iv_w ix4 (by decide))
        refine lv_iload hx hb dX11_bite_140 (lv_at hl 0 rfl) ?_
        refine lv_isub hx hb dX11_bite_142 ?_
        refine lv_topi (fun x7 ex7 => ?_)
        have ix7 := iv_top x7
        have j143 := th_nat (hi := 22) (iv_w ix4 (by decide))
        refine th_iastE S hK hH hS ⟨33, by decide, tA⟩ tA km_33 (th_in (hi := 22) (iv_w ix4 (by decide)) (by decide)) (th_iv ix7) dX11_bite_143 (fun H locs hH hS hq1 hU143 => ?_)
        refine lv_aload_n hx hb dX11_bite_144 rfl (lv_at hl 1 rfl) ?_
        refine th_get S hK hH inG11 t0 km_0 rfl 52 (by decide) gm_1282 rfl rfl dX11_bite_145 (fun v8 hv8 fv8 => ?_)
        obtain ⟨rf9, rfl, trf9⟩ := th_V.ref hv8
        have z10 := (mo_of hT tA _ trf9).symm
        subst z10
        refine lv_bipush (v := 23) hx hb dX11_bite_148 (by decide) ?_
        refine lv_iload hx hb dX11_bite_150 (lv_at hl 4 rfl) ?_
        refine lv_iadd hx hb dX11_bite_152 ?_
        refine lv_topi (fun x11 ex11 => ?_)
        have ix11 : IV x11 23 30 := by rw [ex11]; exact iv_add (iv_c (by decide) : IV 23 23 23) iv127_4 (by decide)
        have ux11 : x11.toInt = (23 : Int) + v127_4.toInt := by rw [ex11]; exact iv_addE (by have z1 := ((iv_c (by decide) : IV 23 23 23)).1; have z2 := ((iv_c (by decide) : IV 23 23 23)).2; have z3 := (iv127_4).1; have z4 := (iv127_4).2; omega)
        refine lv_dup2_11 hx hb dX11_bite_153 rfl rfl ?_
        refine th_ialdE S hK hH tA km_33 (th_in (hi := 30) (iv_w ix11 (by decide)) (by decide)) dX11_bite_154 (fun v12 hv12 mx13 => ?_)
        obtain ⟨x13, rfl, ix13⟩ := th_V.int hv12
        have jx13 := th_nat (hi := 30) (iv_w ix11 (by decide))
        refine lv_iconst (v := 1) hx hb dX11_bite_155 (by decide) ?_
        refine lv_iadd hx hb dX11_bite_156 ?_
        refine lv_topi (fun x14 ex14 => ?_)
        have ix14 := iv_top x14
        have j157 := th_nat (hi := 30) (iv_w ix11 (by decide))
        refine th_iastE S hK hH hS ⟨33, by decide, tA⟩ tA km_33 (th_in (hi := 30) (iv_w ix11 (by decide)) (by decide)) (th_iv ix14) dX11_bite_157 (fun H locs hH hS hq1 hU157 => ?_)
        refine lv_aload_n hx hb dX11_bite_158 rfl (lv_at hl 1 rfl) ?_
        refine th_get S hK hH inG11 t0 km_0 rfl 52 (by decide) gm_1282 rfl rfl dX11_bite_159 (fun v15 hv15 fv15 => ?_)
        obtain ⟨rf16, rfl, trf16⟩ := th_V.ref hv15
        have z17 := (mo_of hT tA _ trf16).symm
        subst z17
        refine lv_bipush (v := 31) hx hb dX11_bite_162 (by decide) ?_
        refine lv_iload_n hx hb dX11_bite_164 rfl (lv_at hl 2 rfl) ?_
        refine lv_iadd hx hb dX11_bite_165 ?_
        refine lv_topi (fun x18 ex18 => ?_)
        have ix18 : IV x18 31 34 := by rw [ex18]; exact iv_add (iv_c (by decide) : IV 31 31 31) j1 (by decide)
        have ux18 : x18.toInt = (31 : Int) + y1.toInt := by rw [ex18]; exact iv_addE (by have z1 := ((iv_c (by decide) : IV 31 31 31)).1; have z2 := ((iv_c (by decide) : IV 31 31 31)).2; have z3 := (j1).1; have z4 := (j1).2; omega)
        refine lv_dup2_11 hx hb dX11_bite_166 rfl rfl ?_
        refine th_ialdE S hK hH tA km_33 (th_in (hi := 34) (iv_w ix18 (by decide)) (by decide)) dX11_bite_167 (fun v19 hv19 mx20 => ?_)
        obtain ⟨x20, rfl, ix20⟩ := th_V.int hv19
        have jx20 := th_nat (hi := 34) (iv_w ix18 (by decide))
        refine lv_iload hx hb dX11_bite_168 (lv_at hl 0 rfl) ?_
        refine lv_iadd hx hb dX11_bite_170 ?_
        refine lv_topi (fun x21 ex21 => ?_)
        have ix21 := iv_top x21
        have j171 := th_nat (hi := 34) (iv_w ix18 (by decide))
        refine th_iastE S hK hH hS ⟨33, by decide, tA⟩ tA km_33 (th_in (hi := 34) (iv_w ix18 (by decide)) (by decide)) (th_iv ix21) dX11_bite_171 (fun H locs hH hS hq1 hU171 => ?_)
        refine lv_iload_n hx hb dX11_bite_172 rfl (lv_at hl 3 rfl) ?_
        refine lv_iload hx hb dX11_bite_173 (lv_at hl 0 rfl) ?_
        refine lv_isub hx hb dX11_bite_175 ?_
        refine lv_topi (fun x22 ex22 => ?_)
        have ix22 := iv_top x22
        refine lv_istore_n (lv' := [(3, .int x22), (6, .int w127_0), (0, .ref a0), (1, .int y1), (4, .int v127_4)]) hx hb dX11_bite_176 rfl hl (by decide) rfl (fun ls hl => ?_)
        obtain ⟨N2, hB2, hE2⟩ := bite_end v127_inv0 (by omega) (by omega) (by omega) mx6 (by omega) ex7 hU143 hU157 (by omega) hU171 (by omega) ex22
        refine lv_goto (tgt := 2) hx hb dX11_bite_177 (by decide) ?_
        exact ih2 H locs ls x22 N2 ix22 (show bst cT H aA N2 (-1) by assumption) hH hS (lv_sub hl [2, 3, 0] rfl) (show 2 * N2 + lf x22.toInt < n by omega)
      have J15 : ∀ (n : Nat) (H : Heap) (locs : List Loc) (ls : Array Slot) (v15_4 : Int32) (v15_5 : Int32) (v15_6 : Int32), IV v15_4 (-1) 7 → IV v15_5 (-2147483648) 2147483647 → IV v15_6 0 8 → IV v2_3 1 2147483647 → (bst cT H aA N v15_4.toInt) → (0 < v2_3.toInt) → th_H D cT T (km q) H → va_S (th_A T [0, 32, 33]) s.heap H locs → lv_has ls 8 [(0, .ref a0), (1, .int y1), (3, .int v2_3), (4, .int v15_4), (5, .int v15_5), (6, .int v15_6)] → (8 + 1 - Int32.toInt v15_6).toNat < n → W p l e (rmk 3 68) s m [.ref a0, .int y1, .int y2].toArray below meth c H locs 0 0 (MQ below (th_Q D cT T (km q) (th_R T none) [0, 32, 33]) [.ref a0, .int y1, .int y2].toArray s 0 0 (th_A T [0, 32, 33])) (F0 m 15 ls []) := by
        intro n
        induction n with
        | zero => intro H locs ls v15_4 v15_5 v15_6 iv15_4 iv15_5 iv15_6 f15_v2_3 v15_inv0 v15_inv1 hH hS hl hn; exact absurd hn (Nat.not_lt_zero _)
        | succ n ih15 =>
          intro H locs ls v15_4 v15_5 v15_6 iv15_4 iv15_5 iv15_6 f15_v2_3 v15_inv0 v15_inv1 hH hS hl hn15
          have hB := v15_inv0
          have J87 : ∀ (H : Heap) (locs : List Loc) (ls : Array Slot) (v87_4 : Int32) (v87_5 : Int32), IV v87_4 (-1) 7 → IV v87_5 (-2147483648) 2147483647 → IV v15_6 0 7 → IV v2_3 1 2147483647 → (bst cT H aA N v87_4.toInt) → (0 < v2_3.toInt) → th_H D cT T (km q) H → va_S (th_A T [0, 32, 33]) s.heap H locs → lv_has ls 8 [(0, .ref a0), (1, .int y1), (3, .int v2_3), (4, .int v87_4), (5, .int v87_5), (6, .int v15_6)] → W p l e (rmk 3 68) s m [.ref a0, .int y1, .int y2].toArray below meth c H locs 0 0 (MQ below (th_Q D cT T (km q) (th_R T none) [0, 32, 33]) [.ref a0, .int y1, .int y2].toArray s 0 0 (th_A T [0, 32, 33])) (F0 m 87 ls []) := by
            intro H locs ls v87_4 v87_5 iv87_4 iv87_5 f87_v15_6 f87_v2_3 v87_inv0 v87_inv1 hH hS hl
            have l1v87_4 := iv87_4.1; have l2v87_4 := iv87_4.2
            refine th_iinc S dX11_bite_87 hl (k := 5) rfl (by decide) f87_v15_6 (by decide) (fun x23 ls ex23 ix23 hl => ?_)
            have hl : lv_has ls 8 [(6, .int x23), (0, .ref a0), (1, .int y1), (3, .int v2_3), (4, .int v87_4), (5, .int v87_5)] := hl
            have ix23 : IV x23 1 8 := ix23
            refine lv_goto (tgt := 15) hx hb dX11_bite_90 (by decide) ?_
            exact ih15 H locs ls v87_4 v87_5 x23 iv87_4 iv87_5 (iv_w ix23 (by decide)) f87_v2_3 (show bst cT H aA N v87_4.toInt by first | assumption | exact hB) (show 0 < v2_3.toInt by omega) hH hS (lv_sub hl [1, 2, 3, 4, 5, 0] rfl) (th_up iv15_6 ex23 (by decide) hn15)
          have J79 : ∀ (H : Heap) (locs : List Loc) (ls : Array Slot) (v79_7 : Int32), IV v79_7 (-2147483648) 2147483647 → IV v15_6 0 7 → IV v2_3 1 2147483647 → (bst cT H aA N v15_6.toInt) → (0 < v2_3.toInt) → th_H D cT T (km q) H → va_S (th_A T [0, 32, 33]) s.heap H locs → lv_has ls 8 [(0, .ref a0), (1, .int y1), (3, .int v2_3), (6, .int v15_6), (7, .int v79_7)] → W p l e (rmk 3 68) s m [.ref a0, .int y1, .int y2].toArray below meth c H locs 0 0 (MQ below (th_Q D cT T (km q) (th_R T none) [0, 32, 33]) [.ref a0, .int y1, .int y2].toArray s 0 0 (th_A T [0, 32, 33])) (F0 m 79 ls []) := by
            intro H locs ls v79_7 iv79_7 f79_v15_6 f79_v2_3 v79_inv0 v79_inv1 hH hS hl
            refine lv_iload hx hb dX11_bite_79 (lv_at hl 3 rfl) ?_
            refine lv_istore (lv' := [(4, .int v15_6), (0, .ref a0), (1, .int y1), (3, .int v2_3), (6, .int v15_6), (7, .int v79_7)]) hx hb dX11_bite_81 hl (by decide) rfl (fun ls hl => ?_)
            refine lv_iload hx hb dX11_bite_83 (lv_at hl 5 rfl) ?_
            refine lv_istore (lv' := [(5, .int v79_7), (4, .int v15_6), (0, .ref a0), (1, .int y1), (3, .int v2_3), (6, .int v15_6), (7, .int v79_7)]) hx hb dX11_bite_85 hl (by decide) rfl (fun ls hl => ?_)
            exact J87 H locs ls v15_6 v79_7 (iv_w f79_v15_6 (by decide)) iv79_7 f79_v15_6 f79_v2_3 (show bst cT H aA N v15_6.toInt by first | assumption | exact hB) (show 0 < v2_3.toInt by omega) hH hS (lv_sub hl [2, 3, 4, 1, 0, 5] rfl)
          have l1v15_4 := iv15_4.1; have l2v15_4 := iv15_4.2
          have l1v15_6 := iv15_6.1; have l2v15_6 := iv15_6.2
          refine lv_iload hx hb dX11_bite_15 (lv_at hl 5 rfl) ?_
          refine lv_aload_n hx hb dX11_bite_17 rfl (lv_at hl 0 rfl) ?_
          refine th_get S hK hH inG11 t0 km_0 rfl 13 (by decide) gm_1243 rfl rfl dX11_bite_18 (fun v24 hv24 fv24 => ?_)
          obtain ⟨rf25, rfl, trf25⟩ := th_V.ref hv24
          refine lv_aload_n hx hb dX11_bite_21 rfl (lv_at hl 0 rfl) ?_
          refine th_get S hK hH inG11 t0 km_0 rfl 41 (by decide) gm_1271 rfl rfl dX11_bite_22 (fun v26 hv26 fv26 => ?_)
          obtain ⟨x27, rfl, ix27⟩ := th_V.int hv26
          have kx27a : q 10 ≤ x27.toInt := ix27.1
          have kx27b : x27.toInt ≤ q 10 := ix27.2
          have ix27 : IV x27 0 1 := iv_w ix27 (qkm_10 hq)
          refine th_iald S hK hH trf25 km_5 (th_in (hi := 1) ix27 (by decide)) dX11_bite_25 (fun v28 hv28 => ?_)
          obtain ⟨x29, rfl, ix29⟩ := th_bkA hv28 ix27 (by omega)
          have kx29a : q 18 ≤ x29.toInt := ix29.1
          have kx29b : x29.toInt ≤ q 18 := ix29.2
          have ix29 : IV x29 0 8 := iv_w ix29 (qkm_18 hq)
          refine lv_icmp_ge (tgt := 93) hx hb dX11_bite_26 (by decide) (fun c30 => ?_) (fun c30 => ?_)
          · skip
            have rlc30 : x29.toInt ≤ v15_6.toInt := iv_le c30
            refine lv_iload hx hb dX11_bite_93 (lv_at hl 3 rfl) ?_
            refine lv_if_ge (tgt := 99) hx hb dX11_bite_95 (by decide) (fun c31 => ?_) (fun c31 => ?_)
            · skip
              have rlc31 : (0 : Int) ≤ v15_4.toInt := iv_le c31
              have ir32 : IV v15_4 0 7 := iv_vR (iv_c (by decide) : IV 0 0 0) iv15_4 (iv_le c31) (by decide)
              have ir32a := ir32.1; have ir32b := ir32.2
              refine lv_iload_n hx hb dX11_bite_99 rfl (lv_at hl 2 rfl) ?_
              refine lv_aload_n hx hb dX11_bite_100 rfl (lv_at hl 0 rfl) ?_
              refine th_get S hK hH inG11 t0 km_0 rfl 52 (by decide) gm_1282 rfl rfl dX11_bite_101 (fun v33 hv33 fv33 => ?_)
              obtain ⟨rf34, rfl, trf34⟩ := th_V.ref hv33
              have z35 := (mo_of hT tA _ trf34).symm
              subst z35
              refine lv_bipush (v := 15) hx hb dX11_bite_104 (by decide) ?_
              refine lv_iload hx hb dX11_bite_106 (lv_at hl 3 rfl) ?_
              refine lv_iadd hx hb dX11_bite_108 ?_
              refine lv_topi (fun x36 ex36 => ?_)
              have ix36 : IV x36 15 22 := by rw [ex36]; exact iv_add (iv_c (by decide) : IV 15 15 15) ir32 (by decide)
              have ux36 : x36.toInt = (15 : Int) + v15_4.toInt := by rw [ex36]; exact iv_addE (by have z1 := ((iv_c (by decide) : IV 15 15 15)).1; have z2 := ((iv_c (by decide) : IV 15 15 15)).2; have z3 := (ir32).1; have z4 := (ir32).2; omega)
              refine th_ialdE S hK hH tA km_33 (th_in (hi := 22) (iv_w ix36 (by decide)) (by decide)) dX11_bite_109 (fun v37 hv37 mx38 => ?_)
              obtain ⟨x38, rfl, ix38⟩ := th_V.int hv37
              have jx38 := th_nat (hi := 22) (iv_w ix36 (by decide))
              have hbl := bnn_l (left := v2_3) hB (by omega) (by omega) mx38 (by omega)
              refine lv_icmp_ge (tgt := 117) hx hb dX11_bite_110 (by decide) (fun c39 => ?_) (fun c39 => ?_)
              · skip
                have rlc39 : x38.toInt ≤ v2_3.toInt := iv_le c39
                refine lv_aload_n hx hb dX11_bite_117 rfl (lv_at hl 0 rfl) ?_
                refine th_get S hK hH inG11 t0 km_0 rfl 52 (by decide) gm_1282 rfl rfl dX11_bite_118 (fun v40 hv40 fv40 => ?_)
                obtain ⟨rf41, rfl, trf41⟩ := th_V.ref hv40
                have z42 := (mo_of hT tA _ trf41).symm
                subst z42
                refine lv_bipush (v := 15) hx hb dX11_bite_121 (by decide) ?_
                refine lv_iload hx hb dX11_bite_123 (lv_at hl 3 rfl) ?_
                refine lv_iadd hx hb dX11_bite_125 ?_
                refine lv_topi (fun x43 ex43 => ?_)
                have zx43 : x36 = x43 := ex36.trans ex43.symm
                subst zx43
                refine th_ialdE S hK hH tA km_33 (th_in (hi := 22) (iv_w ix36 (by decide)) (by decide)) dX11_bite_126 (fun v44 hv44 mx45 => ?_)
                obtain ⟨x45, rfl, ix45⟩ := th_V.int hv44
                have jx45 := th_nat (hi := 22) (iv_w ix36 (by decide))
                exact J127 H locs ls v15_4 x45 ir32 ix45 f15_v2_3 (show bnn cT H aA N v15_4.toInt x45 v2_3 by first | exact hbl.1 | exact (bnn_l hB (by omega) (by omega) mx45 (by omega)).2) (show 0 < v2_3.toInt by omega) hH hS (lv_sub hl [0, 1, 2, 3] rfl)
              · skip
                have rlc39 : v2_3.toInt < x38.toInt := iv_nle c39
                have ir46 : IV v2_3 1 2147483646 := iv_uL f15_v2_3 ix38 (iv_nle c39) (by decide)
                have ir46a := ir46.1; have ir46b := ir46.2
                have ir47 : IV x38 2 2147483647 := iv_uR f15_v2_3 ix38 (iv_nle c39) (by decide)
                have ir47a := ir47.1; have ir47b := ir47.2
                refine lv_iload_n hx hb dX11_bite_113 rfl (lv_at hl 2 rfl) ?_
                refine lv_goto (tgt := 127) hx hb dX11_bite_114 (by decide) ?_
                exact J127 H locs ls v15_4 v2_3 ir32 (iv_top _) (iv_w ir46 (by decide)) (show bnn cT H aA N v15_4.toInt v2_3 v2_3 by first | exact hbl.1 | exact (bnn_l hB (by omega) (by omega) mv2_3 (by omega)).2) (show 0 < v2_3.toInt by omega) hH hS (lv_sub hl [0, 1, 2, 3] rfl)
            · skip
              have rlc31 : v15_4.toInt < (0 : Int) := iv_nle c31
              have ir48 : IV v15_4 (-1) (-1) := iv_uL iv15_4 (iv_c (by decide) : IV 0 0 0) (iv_nle c31) (by decide)
              have ir48a := ir48.1; have ir48b := ir48.2
              exact th_vret S hK hH hS hr hlocks rfl dX11_bite_98
          · skip
            have rlc30 : v15_6.toInt < x29.toInt := iv_nle c30
            have ir49 : IV v15_6 0 7 := iv_uL iv15_6 ix29 (iv_nle c30) (by decide)
            have ir49a := ir49.1; have ir49b := ir49.2
            have ir50 : IV x29 1 8 := iv_uR iv15_6 ix29 (iv_nle c30) (by decide)
            have ir50a := ir50.1; have ir50b := ir50.2
            refine lv_aload_n hx hb dX11_bite_29 rfl (lv_at hl 0 rfl) ?_
            refine lv_iload hx hb dX11_bite_30 (lv_at hl 5 rfl) ?_
            refine lv_iload_n hx hb dX11_bite_32 rfl (lv_at hl 1 rfl) ?_
            refine th_callVi (n := 2) (As := [.int v15_6, .int y1]) S hK hH hS (th_A.sub (by decide)) (m_X11_isOn l D cT T q hT hq a0 t0 (v15_6) ir49 (y1) (iv_top _)) gm_1664 gm_1661 gm_1663 gm_88 gm_124 (by decide +kernel) ⟨rfl, rfl, Nat.le_of_ble_eq_true rfl, Nat.le_of_ble_eq_true rfl⟩ t0 km_0 rfl rfl hl.1 rfl (Nat.le_of_ble_eq_true rfl) dX11_bite_33 ⟨Nat.zero_le _, Nat.zero_le _⟩ (fun x51 H locs ix51 hH hS hF1 => ?_)
            have hB := bst_call hF1 tA (by decide) hB
            refine lv_if_eq (tgt := 87) hx hb dX11_bite_36 (by decide) (fun c52 => ?_) (fun c52 => ?_)
            · skip
              have rlc52 : x51.toInt = (0 : Int) := congrArg Int32.toInt c52
              have ir53 : IV x51 0 0 := iv_eL c52 (iv_c (by decide) : IV 0 0 0)
              have ir53a := ir53.1; have ir53b := ir53.2
              exact J87 H locs ls v15_4 v15_5 iv15_4 iv15_5 ir49 f15_v2_3 (show bst cT H aA N v15_4.toInt by first | assumption | exact hB) (show 0 < v2_3.toInt by omega) hH hS (lv_sub hl [0, 1, 2, 3, 4, 5] rfl)
            · skip
              have rlc52 : x51.toInt ≠ (0 : Int) := iv_ne c52
              have ir54 : IV x51 1 1 := iv_cutL ix51 (iv_c (by decide) : IV 0 0 0) c52 (by decide)
              have ir54a := ir54.1; have ir54b := ir54.2
              refine lv_aload_n hx hb dX11_bite_39 rfl (lv_at hl 0 rfl) ?_
              refine th_get S hK hH inG11 t0 km_0 rfl 52 (by decide) gm_1282 rfl rfl dX11_bite_40 (fun v55 hv55 fv55 => ?_)
              obtain ⟨rf56, rfl, trf56⟩ := th_V.ref hv55
              have z57 := (mo_of hT tA _ trf56).symm
              subst z57
              refine lv_bipush (v := 15) hx hb dX11_bite_43 (by decide) ?_
              refine lv_iload hx hb dX11_bite_45 (lv_at hl 5 rfl) ?_
              refine lv_iadd hx hb dX11_bite_47 ?_
              refine lv_topi (fun x58 ex58 => ?_)
              have ix58 : IV x58 15 22 := by rw [ex58]; exact iv_add (iv_c (by decide) : IV 15 15 15) ir49 (by decide)
              have ux58 : x58.toInt = (15 : Int) + v15_6.toInt := by rw [ex58]; exact iv_addE (by have z1 := ((iv_c (by decide) : IV 15 15 15)).1; have z2 := ((iv_c (by decide) : IV 15 15 15)).2; have z3 := (ir49).1; have z4 := (ir49).2; omega)
              refine th_ialdE S hK hH tA km_33 (th_in (hi := 22) (iv_w ix58 (by decide)) (by decide)) dX11_bite_48 (fun v59 hv59 mx60 => ?_)
              obtain ⟨x60, rfl, ix60⟩ := th_V.int hv59
              have jx60 := th_nat (hi := 22) (iv_w ix58 (by decide))
              refine lv_if_ne (tgt := 55) hx hb dX11_bite_49 (by decide) (fun c61 => ?_) (fun c61 => ?_)
              · skip
                have rlc61 : x60.toInt ≠ (0 : Int) := iv_ne c61
                have hP : nzAt cT H aA v15_6.toInt := nzAt_of mx60 (by omega) (by assumption)
                refine lv_aload_n hx hb dX11_bite_55 rfl (lv_at hl 0 rfl) ?_
                refine lv_iload hx hb dX11_bite_56 (lv_at hl 5 rfl) ?_
                refine lv_iload_n hx hb dX11_bite_58 rfl (lv_at hl 1 rfl) ?_
                refine th_callVi (n := 2) (As := [.int v15_6, .int y1]) S hK hH hS (th_A.sub (by decide)) (m_X11_tasteOf l D cT T q hT hq a0 t0 (v15_6) ir49 (y1) j1) gm_1680 gm_1677 gm_1679 gm_90 gm_124 (by decide +kernel) ⟨rfl, rfl, Nat.le_of_ble_eq_true rfl, Nat.le_of_ble_eq_true rfl⟩ t0 km_0 rfl rfl hl.1 rfl (Nat.le_of_ble_eq_true rfl) dX11_bite_59 ⟨Nat.zero_le _, Nat.zero_le _⟩ (fun x62 H locs ix62 hH hS hF1 => ?_)
                have hB := bst_call hF1 tA (by decide) hB
                have hP := nzAt_call hF1 tA (by decide) hP
                refine lv_istore (lv' := [(7, .int x62), (0, .ref a0), (1, .int y1), (3, .int v2_3), (4, .int v15_4), (5, .int v15_5), (6, .int v15_6)]) hx hb dX11_bite_62 hl (by decide) rfl (fun ls hl => ?_)
                refine lv_iload hx hb dX11_bite_64 (lv_at hl 4 rfl) ?_
                refine lv_if_lt (tgt := 79) hx hb dX11_bite_66 (by decide) (fun c63 => ?_) (fun c63 => ?_)
                · skip
                  have rlc63 : v15_4.toInt < (0 : Int) := iv_lt c63
                  have ir64 : IV v15_4 (-1) (-1) := iv_uL iv15_4 (iv_c (by decide) : IV 0 0 0) (iv_lt c63) (by decide)
                  have ir64a := ir64.1; have ir64b := ir64.2
                  exact J79 H locs ls x62 ix62 ir49 f15_v2_3 (show bst cT H aA N v15_6.toInt by exact bst_of hB hP (by omega)) (show 0 < v2_3.toInt by omega) hH hS (lv_sub hl [1, 2, 3, 6, 0] rfl)
                · skip
                  have rlc63 : (0 : Int) ≤ v15_4.toInt := iv_nlt c63
                  have ir65 : IV v15_4 0 7 := iv_vR (iv_c (by decide) : IV 0 0 0) iv15_4 (iv_nlt c63) (by decide)
                  have ir65a := ir65.1; have ir65b := ir65.2
                  refine lv_iload hx hb dX11_bite_69 (lv_at hl 0 rfl) ?_
                  refine lv_iload hx hb dX11_bite_71 (lv_at hl 5 rfl) ?_
                  refine lv_icmp_gt (tgt := 79) hx hb dX11_bite_73 (by decide) (fun c66 => ?_) (fun c66 => ?_)
                  · skip
                    have rlc66 : v15_5.toInt < x62.toInt := iv_lt c66
                    have ir67 : IV v15_5 (-2147483648) 2147483646 := iv_uL iv15_5 ix62 (iv_lt c66) (by decide)
                    have ir67a := ir67.1; have ir67b := ir67.2
                    have ir68 : IV x62 (-2147483647) 2147483647 := iv_uR iv15_5 ix62 (iv_lt c66) (by decide)
                    have ir68a := ir68.1; have ir68b := ir68.2
                    exact J79 H locs ls x62 (iv_top _) ir49 f15_v2_3 (show bst cT H aA N v15_6.toInt by exact bst_of hB hP (by omega)) (show 0 < v2_3.toInt by omega) hH hS (lv_sub hl [1, 2, 3, 6, 0] rfl)
                  · skip
                    have rlc66 : x62.toInt ≤ v15_5.toInt := iv_nlt c66
                    refine lv_goto (tgt := 87) hx hb dX11_bite_76 (by decide) ?_
                    exact J87 H locs ls v15_4 v15_5 (iv_w ir65 (by decide)) iv15_5 ir49 f15_v2_3 (show bst cT H aA N v15_4.toInt by first | assumption | exact hB) (show 0 < v2_3.toInt by omega) hH hS (lv_sub hl [1, 2, 3, 4, 5, 6] rfl)
              · skip
                have rlc61 : x60.toInt = (0 : Int) := congrArg Int32.toInt c61
                have ir69 : IV x60 0 0 := iv_eL c61 (iv_c (by decide) : IV 0 0 0)
                have ir69a := ir69.1; have ir69b := ir69.2
                refine lv_goto (tgt := 87) hx hb dX11_bite_52 (by decide) ?_
                exact J87 H locs ls v15_4 v15_5 iv15_4 iv15_5 ir49 f15_v2_3 (show bst cT H aA N v15_4.toInt by first | assumption | exact hB) (show 0 < v2_3.toInt by omega) hH hS (lv_sub hl [0, 1, 2, 3, 4, 5] rfl)
      refine lv_iload_n hx hb dX11_bite_2 rfl (lv_at hl 2 rfl) ?_
      refine lv_if_le (tgt := 180) hx hb dX11_bite_3 (by decide) (fun c70 => ?_) (fun c70 => ?_)
      · skip
        have rlc70 : v2_3.toInt ≤ (0 : Int) := iv_le c70
        have ir71 : IV v2_3 (-2147483648) 0 := iv_vL iv2_3 (iv_c (by decide) : IV 0 0 0) (iv_le c70) (by decide)
        have ir71a := ir71.1; have ir71b := ir71.2
        exact th_vret S hK hH hS hr hlocks rfl dX11_bite_180
      · skip
        have rlc70 : (0 : Int) < v2_3.toInt := iv_nle c70
        have ir72 : IV v2_3 1 2147483647 := iv_uR (iv_c (by decide) : IV 0 0 0) iv2_3 (iv_nle c70) (by decide)
        have ir72a := ir72.1; have ir72b := ir72.2
        refine lv_iconst (v := (-1)) hx hb dX11_bite_6 (by decide) ?_
        refine lv_istore (lv' := [(4, .int (-1)), (0, .ref a0), (1, .int y1), (3, .int v2_3)]) hx hb dX11_bite_7 hl (by decide) rfl (fun ls hl => ?_)
        refine lv_iconst (v := 0) hx hb dX11_bite_9 (by decide) ?_
        refine lv_istore (lv' := [(5, .int 0), (4, .int (-1)), (0, .ref a0), (1, .int y1), (3, .int v2_3)]) hx hb dX11_bite_10 hl (by decide) rfl (fun ls hl => ?_)
        refine lv_iconst (v := 0) hx hb dX11_bite_12 (by decide) ?_
        refine lv_istore (lv' := [(6, .int 0), (5, .int 0), (4, .int (-1)), (0, .ref a0), (1, .int y1), (3, .int v2_3)]) hx hb dX11_bite_13 hl (by decide) rfl (fun ls hl => ?_)
        exact J15 ((8 + 1 - Int32.toInt 0).toNat + 1) H locs ls (-1) 0 0 (iv_w (iv_c (by decide) : IV (-1) (-1) (-1)) (by decide)) (iv_top _) (iv_w (iv_c (by decide) : IV 0 0 0) (by decide)) ir72 (show bst cT H aA N (-1 : Int) by first | assumption | exact hB) (show 0 < v2_3.toInt by omega) hH hS (lv_sub hl [3, 4, 5, 2, 1, 0] rfl) (Nat.lt_succ_self _)
  have J0 : ∀ (H : Heap) (locs : List Loc) (ls : Array Slot), th_H D cT T (km q) H → va_S (th_A T [0, 32, 33]) s.heap H locs → lv_has ls 8 [(0, .ref a0), (1, .int y1), (2, .int y2)] → W p l e (rmk 3 68) s m [.ref a0, .int y1, .int y2].toArray below meth c H locs 0 0 (MQ below (th_Q D cT T (km q) (th_R T none) [0, 32, 33]) [.ref a0, .int y1, .int y2].toArray s 0 0 (th_A T [0, 32, 33])) (F0 m 0 ls []) := by
    intro H locs ls hH hS hl
    refine lv_iload_n hx hb dX11_bite_0 rfl (lv_at hl 2 rfl) ?_
    obtain ⟨N0, hB0⟩ := bst_ex hH tA
    refine lv_istore_n (lv' := [(3, .int y2), (0, .ref a0), (1, .int y1), (2, .int y2)]) hx hb dX11_bite_1 rfl hl (by decide) rfl (fun ls hl => ?_)
    exact J2 (2 * N0 + lf y2.toInt + 1) H locs ls y2 N0 j2 (show bst cT H aA N0 (-1) by assumption) hH hS (lv_sub hl [1, 2, 0] rfl) (Nat.lt_succ_self _)
  exact J0 s.heap [] ls hH va_S.rf hl

set_option maxRecDepth 100000 in
theorem m_X11_grow (l : Launch) (D : va_G) (cT : Nat → ClassId) (T : Nat → Option Nat) (q : Nat → Int) (hT : tokm T) (hq : qkm q) (a0 : Nat) (t0 : T a0 = some 0) (y1 : Int32) (j1 : IV y1 0 3) (y2 : Int32) (j2 : IV y2 (-2147483648) 2147483647) : th_Met l D cT T (km q) yX11_grow cX11_grow 5 none (rmk 2 43) [.ref a0, .int y1, .int y2] (th_R T none) [33] := by
  refine th_start (by decide) (Nat.le_of_ble_eq_true rfl) ?_
  intro p e s m below meth c ls S hK hH hr hlocks hnm hl
  have hx := S.1
  have hb := S.2.1
  have l1y1 := j1.1; have l2y1 := j1.2
  have hl : lv_has ls 5 [(0, .ref a0), (1, .int y1), (2, .int y2)] := hl
  have J109 : ∀ (H : Heap) (locs : List Loc) (ls : Array Slot) (w109_0 : Nat) (w109_1 : Int32) (w109_2 : Int32), T w109_0 = some 33 → IV w109_1 15 22 → IV w109_2 (-2147483648) 2147483647 → th_H D cT T (km q) H → va_S (th_A T [33]) s.heap H locs → lv_has ls 5 [] → W p l e (rmk 2 43) s m [.ref a0, .int y1, .int y2].toArray below meth c H locs 0 0 (MQ below (th_Q D cT T (km q) (th_R T none) [33]) [.ref a0, .int y1, .int y2].toArray s 0 0 (th_A T [33])) (F0 m 109 ls [.int w109_2, .int w109_1, .ref w109_0]) := by
    intro H locs ls w109_0 w109_1 w109_2 tw109_0 iw109_1 iw109_2 hH hS hl
    have l1w109_1 := iw109_1.1; have l2w109_1 := iw109_1.2
    refine th_iast S hK hH hS ⟨33, by decide, tw109_0⟩ tw109_0 km_33 (th_in (hi := 22) (iv_w iw109_1 (by decide)) (by decide)) (th_iv iw109_2) dX11_grow_109 (fun H locs hH hS hq1 => ?_)
    exact th_vret S hK hH hS hr hlocks rfl dX11_grow_110
  have J109_s2_60 : ∀ (H : Heap) (locs : List Loc) (ls : Array Slot) (w109_0 : Nat) (w109_1 : Int32), T w109_0 = some 33 → IV w109_1 15 22 → th_H D cT T (km q) H → va_S (th_A T [33]) s.heap H locs → lv_has ls 5 [] → W p l e (rmk 2 43) s m [.ref a0, .int y1, .int y2].toArray below meth c H locs 0 0 (MQ below (th_Q D cT T (km q) (th_R T none) [33]) [.ref a0, .int y1, .int y2].toArray s 0 0 (th_A T [33])) (F0 m 109 ls [.int 60, .int w109_1, .ref w109_0]) := by
    intro H locs ls w109_0 w109_1 tw109_0 iw109_1 hH hS hl
    have l1w109_1 := iw109_1.1; have l2w109_1 := iw109_1.2
    refine th_iast S hK hH hS ⟨33, by decide, tw109_0⟩ tw109_0 km_33 (th_in (hi := 22) (iv_w iw109_1 (by decide)) (by decide)) (th_iv (iv_top _)) dX11_grow_109 (fun H locs hH hS hq1 => ?_)
    exact th_vret S hK hH hS hr hlocks rfl dX11_grow_110
  have J5 : ∀ (n : Nat) (H : Heap) (locs : List Loc) (ls : Array Slot) (v5_3 : Int32) (v5_4 : Int32), IV v5_3 (-1) 7 → IV v5_4 0 8 → th_H D cT T (km q) H → va_S (th_A T [33]) s.heap H locs → lv_has ls 5 [(0, .ref a0), (1, .int y1), (2, .int y2), (3, .int v5_3), (4, .int v5_4)] → (8 + 1 - Int32.toInt v5_4).toNat < n → W p l e (rmk 2 43) s m [.ref a0, .int y1, .int y2].toArray below meth c H locs 0 0 (MQ below (th_Q D cT T (km q) (th_R T none) [33]) [.ref a0, .int y1, .int y2].toArray s 0 0 (th_A T [33])) (F0 m 5 ls []) := by
    intro n
    induction n with
    | zero => intro H locs ls v5_3 v5_4 iv5_3 iv5_4 hH hS hl hn; exact absurd hn (Nat.not_lt_zero _)
    | succ n ih5 =>
      intro H locs ls v5_3 v5_4 iv5_3 iv5_4 hH hS hl hn5
      have J58 : ∀ (H : Heap) (locs : List Loc) (ls : Array Slot) (v58_3 : Int32), IV v58_3 (-1) 7 → IV v5_4 0 7 → th_H D cT T (km q) H → va_S (th_A T [33]) s.heap H locs → lv_has ls 5 [(0, .ref a0), (1, .int y1), (2, .int y2), (3, .int v58_3), (4, .int v5_4)] → W p l e (rmk 2 43) s m [.ref a0, .int y1, .int y2].toArray below meth c H locs 0 0 (MQ below (th_Q D cT T (km q) (th_R T none) [33]) [.ref a0, .int y1, .int y2].toArray s 0 0 (th_A T [33])) (F0 m 58 ls []) := by
        intro H locs ls v58_3 iv58_3 f58_v5_4 hH hS hl
        have l1v58_3 := iv58_3.1; have l2v58_3 := iv58_3.2
        refine th_iinc S dX11_grow_58 hl (k := 4) rfl (by decide) f58_v5_4 (by decide) (fun x1 ls ex1 ix1 hl => ?_)
        have hl : lv_has ls 5 [(4, .int x1), (0, .ref a0), (1, .int y1), (2, .int y2), (3, .int v58_3)] := hl
        have ix1 : IV x1 1 8 := ix1
        refine lv_goto (tgt := 5) hx hb dX11_grow_61 (by decide) ?_
        exact ih5 H locs ls v58_3 x1 iv58_3 (iv_w ix1 (by decide)) hH hS (lv_sub hl [1, 2, 3, 4, 0] rfl) (th_up iv5_4 ex1 (by decide) hn5)
      have J55 : ∀ (H : Heap) (locs : List Loc) (ls : Array Slot), IV v5_4 0 7 → th_H D cT T (km q) H → va_S (th_A T [33]) s.heap H locs → lv_has ls 5 [(0, .ref a0), (1, .int y1), (2, .int y2), (4, .int v5_4)] → W p l e (rmk 2 43) s m [.ref a0, .int y1, .int y2].toArray below meth c H locs 0 0 (MQ below (th_Q D cT T (km q) (th_R T none) [33]) [.ref a0, .int y1, .int y2].toArray s 0 0 (th_A T [33])) (F0 m 55 ls []) := by
        intro H locs ls f55_v5_4 hH hS hl
        refine lv_iload hx hb dX11_grow_55 (lv_at hl 3 rfl) ?_
        refine lv_istore_n (lv' := [(3, .int v5_4), (0, .ref a0), (1, .int y1), (2, .int y2), (4, .int v5_4)]) hx hb dX11_grow_57 rfl hl (by decide) rfl (fun ls hl => ?_)
        exact J58 H locs ls v5_4 (iv_w f55_v5_4 (by decide)) f55_v5_4 hH hS (lv_sub hl [1, 2, 3, 0, 4] rfl)
      have l1v5_3 := iv5_3.1; have l2v5_3 := iv5_3.2
      have l1v5_4 := iv5_4.1; have l2v5_4 := iv5_4.2
      refine lv_iload hx hb dX11_grow_5 (lv_at hl 4 rfl) ?_
      refine lv_aload_n hx hb dX11_grow_7 rfl (lv_at hl 0 rfl) ?_
      refine th_get S hK hH inG11 t0 km_0 rfl 13 (by decide) gm_1243 rfl rfl dX11_grow_8 (fun v2 hv2 fv2 => ?_)
      obtain ⟨rf3, rfl, trf3⟩ := th_V.ref hv2
      refine lv_aload_n hx hb dX11_grow_11 rfl (lv_at hl 0 rfl) ?_
      refine th_get S hK hH inG11 t0 km_0 rfl 41 (by decide) gm_1271 rfl rfl dX11_grow_12 (fun v4 hv4 fv4 => ?_)
      obtain ⟨x5, rfl, ix5⟩ := th_V.int hv4
      have kx5a : q 10 ≤ x5.toInt := ix5.1
      have kx5b : x5.toInt ≤ q 10 := ix5.2
      have ix5 : IV x5 0 1 := iv_w ix5 (qkm_10 hq)
      refine th_iald S hK hH trf3 km_5 (th_in (hi := 1) ix5 (by decide)) dX11_grow_15 (fun v6 hv6 => ?_)
      obtain ⟨x7, rfl, ix7⟩ := th_bkA hv6 ix5 (by omega)
      have kx7a : q 18 ≤ x7.toInt := ix7.1
      have kx7b : x7.toInt ≤ q 18 := ix7.2
      have ix7 : IV x7 0 8 := iv_w ix7 (qkm_18 hq)
      refine lv_icmp_ge (tgt := 64) hx hb dX11_grow_16 (by decide) (fun c8 => ?_) (fun c8 => ?_)
      · skip
        have rlc8 : x7.toInt ≤ v5_4.toInt := iv_le c8
        refine lv_iload_n hx hb dX11_grow_64 rfl (lv_at hl 3 rfl) ?_
        refine lv_if_ge (tgt := 69) hx hb dX11_grow_65 (by decide) (fun c9 => ?_) (fun c9 => ?_)
        · skip
          have rlc9 : (0 : Int) ≤ v5_3.toInt := iv_le c9
          have ir10 : IV v5_3 0 7 := iv_vR (iv_c (by decide) : IV 0 0 0) iv5_3 (iv_le c9) (by decide)
          have ir10a := ir10.1; have ir10b := ir10.2
          refine lv_aload_n hx hb dX11_grow_69 rfl (lv_at hl 0 rfl) ?_
          refine th_get S hK hH inG11 t0 km_0 rfl 52 (by decide) gm_1282 rfl rfl dX11_grow_70 (fun v11 hv11 fv11 => ?_)
          obtain ⟨rf12, rfl, trf12⟩ := th_V.ref hv11
          refine lv_bipush (v := 15) hx hb dX11_grow_73 (by decide) ?_
          refine lv_iload_n hx hb dX11_grow_75 rfl (lv_at hl 3 rfl) ?_
          refine lv_iadd hx hb dX11_grow_76 ?_
          refine lv_topi (fun x13 ex13 => ?_)
          have ix13 : IV x13 15 22 := by rw [ex13]; exact iv_add (iv_c (by decide) : IV 15 15 15) ir10 (by decide)
          have ux13 : x13.toInt = (15 : Int) + v5_3.toInt := by rw [ex13]; exact iv_addE (by have z1 := ((iv_c (by decide) : IV 15 15 15)).1; have z2 := ((iv_c (by decide) : IV 15 15 15)).2; have z3 := (ir10).1; have z4 := (ir10).2; omega)
          refine lv_aload_n hx hb dX11_grow_77 rfl (lv_at hl 0 rfl) ?_
          refine th_getK S hK fv11 inG11 rfl (by decide) gm_1282 rfl dX11_grow_78 ?_
          refine lv_bipush (v := 15) hx hb dX11_grow_81 (by decide) ?_
          refine lv_iload_n hx hb dX11_grow_83 rfl (lv_at hl 3 rfl) ?_
          refine lv_iadd hx hb dX11_grow_84 ?_
          refine lv_topi (fun x15 ex15 => ?_)
          have zx15 : x13 = x15 := ex13.trans ex15.symm
          subst zx15
          refine th_iald S hK hH trf12 km_33 (th_in (hi := 22) (iv_w ix13 (by decide)) (by decide)) dX11_grow_85 (fun v16 hv16 => ?_)
          obtain ⟨x17, rfl, ix17⟩ := th_V.int hv16
          refine lv_iload_n hx hb dX11_grow_86 rfl (lv_at hl 2 rfl) ?_
          refine lv_iadd hx hb dX11_grow_87 ?_
          refine lv_topi (fun x18 ex18 => ?_)
          have ix18 := iv_top x18
          refine lv_bipush (v := 60) hx hb dX11_grow_88 (by decide) ?_
          refine lv_icmp_le (tgt := 98) hx hb dX11_grow_90 (by decide) (fun c19 => ?_) (fun c19 => ?_)
          · skip
            have rlc19 : x18.toInt ≤ (60 : Int) := iv_le c19
            have ir20 : IV x18 (-2147483648) 60 := iv_vL ix18 (iv_c (by decide) : IV 60 60 60) (iv_le c19) (by decide)
            have ir20a := ir20.1; have ir20b := ir20.2
            refine lv_aload_n hx hb dX11_grow_98 rfl (lv_at hl 0 rfl) ?_
            refine th_getK S hK fv11 inG11 rfl (by decide) gm_1282 rfl dX11_grow_99 ?_
            refine lv_bipush (v := 15) hx hb dX11_grow_102 (by decide) ?_
            refine lv_iload_n hx hb dX11_grow_104 rfl (lv_at hl 3 rfl) ?_
            refine lv_iadd hx hb dX11_grow_105 ?_
            refine lv_topi (fun x22 ex22 => ?_)
            have zx22 : x13 = x22 := ex13.trans ex22.symm
            subst zx22
            refine th_iald S hK hH trf12 km_33 (th_in (hi := 22) (iv_w ix13 (by decide)) (by decide)) dX11_grow_106 (fun v23 hv23 => ?_)
            obtain ⟨x24, rfl, ix24⟩ := th_V.int hv23
            refine lv_iload_n hx hb dX11_grow_107 rfl (lv_at hl 2 rfl) ?_
            refine lv_iadd hx hb dX11_grow_108 ?_
            refine lv_topi (fun x25 ex25 => ?_)
            have ix25 := iv_top x25
            exact J109 H locs ls rf12 x13 x25 trf12 ix13 ix25 hH hS (lv_sub hl [] rfl)
          · skip
            have rlc19 : (60 : Int) < x18.toInt := iv_nle c19
            have ir26 : IV x18 61 2147483647 := iv_uR (iv_c (by decide) : IV 60 60 60) ix18 (iv_nle c19) (by decide)
            have ir26a := ir26.1; have ir26b := ir26.2
            refine lv_bipush (v := 60) hx hb dX11_grow_93 (by decide) ?_
            refine lv_goto (tgt := 109) hx hb dX11_grow_95 (by decide) ?_
            exact J109_s2_60 H locs ls rf12 x13 trf12 ix13 hH hS (lv_sub hl [] rfl)
        · skip
          have rlc9 : v5_3.toInt < (0 : Int) := iv_nle c9
          have ir27 : IV v5_3 (-1) (-1) := iv_uL iv5_3 (iv_c (by decide) : IV 0 0 0) (iv_nle c9) (by decide)
          have ir27a := ir27.1; have ir27b := ir27.2
          exact th_vret S hK hH hS hr hlocks rfl dX11_grow_68
      · skip
        have rlc8 : v5_4.toInt < x7.toInt := iv_nle c8
        have ir28 : IV v5_4 0 7 := iv_uL iv5_4 ix7 (iv_nle c8) (by decide)
        have ir28a := ir28.1; have ir28b := ir28.2
        have ir29 : IV x7 1 8 := iv_uR iv5_4 ix7 (iv_nle c8) (by decide)
        have ir29a := ir29.1; have ir29b := ir29.2
        refine lv_aload_n hx hb dX11_grow_19 rfl (lv_at hl 0 rfl) ?_
        refine lv_iload hx hb dX11_grow_20 (lv_at hl 4 rfl) ?_
        refine lv_iload_n hx hb dX11_grow_22 rfl (lv_at hl 1 rfl) ?_
        refine th_callVi (n := 2) (As := [.int v5_4, .int y1]) S hK hH hS (th_A.sub (by decide)) (m_X11_isOn l D cT T q hT hq a0 t0 (v5_4) ir28 (y1) (iv_top _)) gm_1664 gm_1661 gm_1663 gm_88 gm_124 (by decide +kernel) ⟨rfl, rfl, Nat.le_of_ble_eq_true rfl, Nat.le_of_ble_eq_true rfl⟩ t0 km_0 rfl rfl hl.1 rfl (Nat.le_of_ble_eq_true rfl) dX11_grow_23 ⟨Nat.zero_le _, Nat.zero_le _⟩ (fun x30 H locs ix30 hH hS hF1 => ?_)
        refine lv_if_eq (tgt := 58) hx hb dX11_grow_26 (by decide) (fun c31 => ?_) (fun c31 => ?_)
        · skip
          have rlc31 : x30.toInt = (0 : Int) := congrArg Int32.toInt c31
          have ir32 : IV x30 0 0 := iv_eL c31 (iv_c (by decide) : IV 0 0 0)
          have ir32a := ir32.1; have ir32b := ir32.2
          exact J58 H locs ls v5_3 iv5_3 ir28 hH hS (lv_sub hl [0, 1, 2, 3, 4] rfl)
        · skip
          have rlc31 : x30.toInt ≠ (0 : Int) := iv_ne c31
          have ir33 : IV x30 1 1 := iv_cutL ix30 (iv_c (by decide) : IV 0 0 0) c31 (by decide)
          have ir33a := ir33.1; have ir33b := ir33.2
          refine lv_iload_n hx hb dX11_grow_29 rfl (lv_at hl 3 rfl) ?_
          refine lv_if_lt (tgt := 55) hx hb dX11_grow_30 (by decide) (fun c34 => ?_) (fun c34 => ?_)
          · skip
            have rlc34 : v5_3.toInt < (0 : Int) := iv_lt c34
            have ir35 : IV v5_3 (-1) (-1) := iv_uL iv5_3 (iv_c (by decide) : IV 0 0 0) (iv_lt c34) (by decide)
            have ir35a := ir35.1; have ir35b := ir35.2
            exact J55 H locs ls ir28 hH hS (lv_sub hl [0, 1, 2, 4] rfl)
          · skip
            have rlc34 : (0 : Int) ≤ v5_3.toInt := iv_nlt c34
            have ir36 : IV v5_3 0 7 := iv_vR (iv_c (by decide) : IV 0 0 0) iv5_3 (iv_nlt c34) (by decide)
            have ir36a := ir36.1; have ir36b := ir36.2
            refine lv_aload_n hx hb dX11_grow_33 rfl (lv_at hl 0 rfl) ?_
            refine th_get S hK hH inG11 t0 km_0 rfl 52 (by decide) gm_1282 rfl rfl dX11_grow_34 (fun v37 hv37 fv37 => ?_)
            obtain ⟨rf38, rfl, trf38⟩ := th_V.ref hv37
            refine lv_bipush (v := 15) hx hb dX11_grow_37 (by decide) ?_
            refine lv_iload hx hb dX11_grow_39 (lv_at hl 4 rfl) ?_
            refine lv_iadd hx hb dX11_grow_41 ?_
            refine lv_topi (fun x39 ex39 => ?_)
            have ix39 : IV x39 15 22 := by rw [ex39]; exact iv_add (iv_c (by decide) : IV 15 15 15) ir28 (by decide)
            have ux39 : x39.toInt = (15 : Int) + v5_4.toInt := by rw [ex39]; exact iv_addE (by have z1 := ((iv_c (by decide) : IV 15 15 15)).1; have z2 := ((iv_c (by decide) : IV 15 15 15)).2; have z3 := (ir28).1; have z4 := (ir28).2; omega)
            refine th_iald S hK hH trf38 km_33 (th_in (hi := 22) (iv_w ix39 (by decide)) (by decide)) dX11_grow_42 (fun v40 hv40 => ?_)
            obtain ⟨x41, rfl, ix41⟩ := th_V.int hv40
            refine lv_aload_n hx hb dX11_grow_43 rfl (lv_at hl 0 rfl) ?_
            refine th_getK S hK fv37 inG11 rfl (by decide) gm_1282 rfl dX11_grow_44 ?_
            refine lv_bipush (v := 15) hx hb dX11_grow_47 (by decide) ?_
            refine lv_iload_n hx hb dX11_grow_49 rfl (lv_at hl 3 rfl) ?_
            refine lv_iadd hx hb dX11_grow_50 ?_
            refine lv_topi (fun x43 ex43 => ?_)
            have ix43 : IV x43 15 22 := by rw [ex43]; exact iv_add (iv_c (by decide) : IV 15 15 15) ir36 (by decide)
            have ux43 : x43.toInt = (15 : Int) + v5_3.toInt := by rw [ex43]; exact iv_addE (by have z1 := ((iv_c (by decide) : IV 15 15 15)).1; have z2 := ((iv_c (by decide) : IV 15 15 15)).2; have z3 := (ir36).1; have z4 := (ir36).2; omega)
            refine th_iald S hK hH trf38 km_33 (th_in (hi := 22) (iv_w ix43 (by decide)) (by decide)) dX11_grow_51 (fun v44 hv44 => ?_)
            obtain ⟨x45, rfl, ix45⟩ := th_V.int hv44
            refine lv_icmp_ge (tgt := 58) hx hb dX11_grow_52 (by decide) (fun c46 => ?_) (fun c46 => ?_)
            · skip
              have rlc46 : x45.toInt ≤ x41.toInt := iv_le c46
              exact J58 H locs ls v5_3 (iv_w ir36 (by decide)) ir28 hH hS (lv_sub hl [0, 1, 2, 3, 4] rfl)
            · skip
              have rlc46 : x41.toInt < x45.toInt := iv_nle c46
              have ir47 : IV x41 (-2147483648) 2147483646 := iv_uL ix41 ix45 (iv_nle c46) (by decide)
              have ir47a := ir47.1; have ir47b := ir47.2
              have ir48 : IV x45 (-2147483647) 2147483647 := iv_uR ix41 ix45 (iv_nle c46) (by decide)
              have ir48a := ir48.1; have ir48b := ir48.2
              exact J55 H locs ls ir28 hH hS (lv_sub hl [0, 1, 2, 4] rfl)
  have J0 : ∀ (H : Heap) (locs : List Loc) (ls : Array Slot), th_H D cT T (km q) H → va_S (th_A T [33]) s.heap H locs → lv_has ls 5 [(0, .ref a0), (1, .int y1), (2, .int y2)] → W p l e (rmk 2 43) s m [.ref a0, .int y1, .int y2].toArray below meth c H locs 0 0 (MQ below (th_Q D cT T (km q) (th_R T none) [33]) [.ref a0, .int y1, .int y2].toArray s 0 0 (th_A T [33])) (F0 m 0 ls []) := by
    intro H locs ls hH hS hl
    refine lv_iconst (v := (-1)) hx hb dX11_grow_0 (by decide) ?_
    refine lv_istore_n (lv' := [(3, .int (-1)), (0, .ref a0), (1, .int y1), (2, .int y2)]) hx hb dX11_grow_1 rfl hl (by decide) rfl (fun ls hl => ?_)
    refine lv_iconst (v := 0) hx hb dX11_grow_2 (by decide) ?_
    refine lv_istore (lv' := [(4, .int 0), (3, .int (-1)), (0, .ref a0), (1, .int y1), (2, .int y2)]) hx hb dX11_grow_3 hl (by decide) rfl (fun ls hl => ?_)
    exact J5 ((8 + 1 - Int32.toInt 0).toNat + 1) H locs ls (-1) 0 (iv_w (iv_c (by decide) : IV (-1) (-1) (-1)) (by decide)) (iv_w (iv_c (by decide) : IV 0 0 0) (by decide)) hH hS (lv_sub hl [2, 3, 4, 1, 0] rfl) (Nat.lt_succ_self _)
  exact J0 s.heap [] ls hH va_S.rf hl

set_option maxRecDepth 100000 in
theorem m_X11_eat (l : Launch) (D : va_G) (cT : Nat → ClassId) (T : Nat → Option Nat) (q : Nat → Int) (hT : tokm T) (hq : qkm q) (a0 : Nat) (t0 : T a0 = some 0) : th_Met l D cT T (km q) yX11_eat cX11_eat 4 none (rmk 4 95) [.ref a0] (th_R T none) [0, 32, 33] := by
  refine th_start (by decide) (Nat.le_of_ble_eq_true rfl) ?_
  intro p e s m below meth c ls S hK hH hr hlocks hnm hl
  have hx := S.1
  have hb := S.2.1
  have hl : lv_has ls 4 [(0, .ref a0)] := hl
  have J2 : ∀ (n : Nat) (H : Heap) (locs : List Loc) (ls : Array Slot) (v2_1 : Int32), IV v2_1 0 4 → th_H D cT T (km q) H → va_S (th_A T [0, 32, 33]) s.heap H locs → lv_has ls 4 [(0, .ref a0), (1, .int v2_1)] → (4 + 1 - Int32.toInt v2_1).toNat < n → W p l e (rmk 4 95) s m [.ref a0].toArray below meth c H locs 0 0 (MQ below (th_Q D cT T (km q) (th_R T none) [0, 32, 33]) [.ref a0].toArray s 0 0 (th_A T [0, 32, 33])) (F0 m 2 ls []) := by
    intro n
    induction n with
    | zero => intro H locs ls v2_1 iv2_1 hH hS hl hn; exact absurd hn (Nat.not_lt_zero _)
    | succ n ih2 =>
      intro H locs ls v2_1 iv2_1 hH hS hl hn2
      have J45 : ∀ (n : Nat) (H : Heap) (locs : List Loc) (ls : Array Slot) (v45_3 : Int32), IV v45_3 0 3 → IV v2_1 0 3 → th_H D cT T (km q) H → va_S (th_A T [0, 32, 33]) s.heap H locs → lv_has ls 4 [(0, .ref a0), (1, .int v2_1), (3, .int v45_3)] → (3 + 1 - Int32.toInt v45_3).toNat < n → W p l e (rmk 4 95) s m [.ref a0].toArray below meth c H locs 0 0 (MQ below (th_Q D cT T (km q) (th_R T none) [0, 32, 33]) [.ref a0].toArray s 0 0 (th_A T [0, 32, 33])) (F0 m 45 ls []) := by
        intro n
        induction n with
        | zero => intro H locs ls v45_3 iv45_3 f45_v2_1 hH hS hl hn; exact absurd hn (Nat.not_lt_zero _)
        | succ n ih45 =>
          intro H locs ls v45_3 iv45_3 f45_v2_1 hH hS hl hn45
          have l1v45_3 := iv45_3.1; have l2v45_3 := iv45_3.2
          refine lv_iload_n hx hb dX11_eat_45 rfl (lv_at hl 2 rfl) ?_
          refine lv_iconst (v := 3) hx hb dX11_eat_46 (by decide) ?_
          refine lv_icmp_ge (tgt := 69) hx hb dX11_eat_47 (by decide) (fun c1 => ?_) (fun c1 => ?_)
          · skip
            have rlc1 : (3 : Int) ≤ v45_3.toInt := iv_le c1
            have ir2 : IV v45_3 3 3 := iv_vR (iv_c (by decide) : IV 3 3 3) iv45_3 (iv_le c1) (by decide)
            have ir2a := ir2.1; have ir2b := ir2.2
            refine th_iinc S dX11_eat_69 hl (k := 1) rfl (by decide) f45_v2_1 (by decide) (fun x3 ls ex3 ix3 hl => ?_)
            have hl : lv_has ls 4 [(1, .int x3), (0, .ref a0), (3, .int v45_3)] := hl
            have ix3 : IV x3 1 4 := ix3
            refine lv_goto (tgt := 2) hx hb dX11_eat_72 (by decide) ?_
            exact ih2 H locs ls x3 (iv_w ix3 (by decide)) hH hS (lv_sub hl [1, 0] rfl) (th_up iv2_1 ex3 (by decide) hn2)
          · skip
            have rlc1 : v45_3.toInt < (3 : Int) := iv_nle c1
            have ir4 : IV v45_3 0 2 := iv_uL iv45_3 (iv_c (by decide) : IV 3 3 3) (iv_nle c1) (by decide)
            have ir4a := ir4.1; have ir4b := ir4.2
            refine lv_aload_n hx hb dX11_eat_50 rfl (lv_at hl 0 rfl) ?_
            refine th_get S hK hH inG11 t0 km_0 rfl 52 (by decide) gm_1282 rfl rfl dX11_eat_51 (fun v5 hv5 fv5 => ?_)
            obtain ⟨rf6, rfl, trf6⟩ := th_V.ref hv5
            refine lv_iconst (v := 3) hx hb dX11_eat_54 (by decide) ?_
            refine lv_iconst (v := 3) hx hb dX11_eat_55 (by decide) ?_
            refine lv_iload_n hx hb dX11_eat_56 rfl (lv_at hl 1 rfl) ?_
            refine lv_imul hx hb dX11_eat_57 ?_
            refine lv_topi (fun x7 ex7 => ?_)
            have ix7 : IV x7 0 9 := by rw [ex7]; exact iv_mul (iv_c (by decide) : IV 3 3 3) f45_v2_1 (by decide) (by decide)
            have ux7 : x7.toInt = (3 : Int) * v2_1.toInt := by rw [ex7]; exact iv_mulE (iv_corner ((iv_c (by decide) : IV 3 3 3)).1 ((iv_c (by decide) : IV 3 3 3)).2 (f45_v2_1).1 (f45_v2_1).2 (by decide))
            refine lv_iadd hx hb dX11_eat_58 ?_
            refine lv_topi (fun x8 ex8 => ?_)
            have ix8 : IV x8 3 12 := by rw [ex8]; exact iv_add (iv_c (by decide) : IV 3 3 3) ix7 (by decide)
            have ux8 : x8.toInt = (3 : Int) + x7.toInt := by rw [ex8]; exact iv_addE (by have z1 := ((iv_c (by decide) : IV 3 3 3)).1; have z2 := ((iv_c (by decide) : IV 3 3 3)).2; have z3 := (ix7).1; have z4 := (ix7).2; omega)
            refine lv_iload_n hx hb dX11_eat_59 rfl (lv_at hl 2 rfl) ?_
            refine lv_iadd hx hb dX11_eat_60 ?_
            refine lv_topi (fun x9 ex9 => ?_)
            have ix9 : IV x9 3 14 := by rw [ex9]; exact iv_add ix8 ir4 (by decide)
            have ux9 : x9.toInt = x8.toInt + v45_3.toInt := by rw [ex9]; exact iv_addE (by have z1 := (ix8).1; have z2 := (ix8).2; have z3 := (ir4).1; have z4 := (ir4).2; omega)
            refine lv_iconst (v := 0) hx hb dX11_eat_61 (by decide) ?_
            refine th_iast S hK hH hS ⟨33, by decide, trf6⟩ trf6 km_33 (th_in (hi := 14) (iv_w ix9 (by decide)) (by decide)) (th_iv (iv_top _)) dX11_eat_62 (fun H locs hH hS hq1 => ?_)
            refine th_iinc S dX11_eat_63 hl (k := 2) rfl (by decide) ir4 (by decide) (fun x10 ls ex10 ix10 hl => ?_)
            have hl : lv_has ls 4 [(3, .int x10), (0, .ref a0), (1, .int v2_1)] := hl
            have ix10 : IV x10 1 3 := ix10
            refine lv_goto (tgt := 45) hx hb dX11_eat_66 (by decide) ?_
            exact ih45 H locs ls x10 (iv_w ix10 (by decide)) f45_v2_1 hH hS (lv_sub hl [1, 2, 0] rfl) (th_up iv45_3 ex10 (by decide) hn45)
      have J43 : ∀ (H : Heap) (locs : List Loc) (ls : Array Slot), IV v2_1 0 3 → th_H D cT T (km q) H → va_S (th_A T [0, 32, 33]) s.heap H locs → lv_has ls 4 [(0, .ref a0), (1, .int v2_1)] → W p l e (rmk 4 95) s m [.ref a0].toArray below meth c H locs 0 0 (MQ below (th_Q D cT T (km q) (th_R T none) [0, 32, 33]) [.ref a0].toArray s 0 0 (th_A T [0, 32, 33])) (F0 m 43 ls []) := by
        intro H locs ls f43_v2_1 hH hS hl
        refine lv_iconst (v := 0) hx hb dX11_eat_43 (by decide) ?_
        refine lv_istore_n (lv' := [(3, .int 0), (0, .ref a0), (1, .int v2_1)]) hx hb dX11_eat_44 rfl hl (by decide) rfl (fun ls hl => ?_)
        exact J45 ((3 + 1 - Int32.toInt 0).toNat + 1) H locs ls 0 (iv_w (iv_c (by decide) : IV 0 0 0) (by decide)) f43_v2_1 hH hS (lv_sub hl [1, 2, 0] rfl) (Nat.lt_succ_self _)
      have J32 : ∀ (H : Heap) (locs : List Loc) (ls : Array Slot) (v32_2 : Int32), IV v32_2 (-2147483648) 2147483647 → IV v2_1 0 3 → th_H D cT T (km q) H → va_S (th_A T [0, 32, 33]) s.heap H locs → lv_has ls 4 [(0, .ref a0), (1, .int v2_1), (2, .int v32_2)] → W p l e (rmk 4 95) s m [.ref a0].toArray below meth c H locs 0 0 (MQ below (th_Q D cT T (km q) (th_R T none) [0, 32, 33]) [.ref a0].toArray s 0 0 (th_A T [0, 32, 33])) (F0 m 32 ls []) := by
        intro H locs ls v32_2 iv32_2 f32_v2_1 hH hS hl
        refine lv_iload_n hx hb dX11_eat_32 rfl (lv_at hl 2 rfl) ?_
        refine lv_if_ge (tgt := 43) hx hb dX11_eat_33 (by decide) (fun c11 => ?_) (fun c11 => ?_)
        · skip
          have rlc11 : (0 : Int) ≤ v32_2.toInt := iv_le c11
          have ir12 : IV v32_2 0 2147483647 := iv_vR (iv_c (by decide) : IV 0 0 0) iv32_2 (iv_le c11) (by decide)
          have ir12a := ir12.1; have ir12b := ir12.2
          exact J43 H locs ls f32_v2_1 hH hS (lv_sub hl [0, 1] rfl)
        · skip
          have rlc11 : v32_2.toInt < (0 : Int) := iv_nle c11
          have ir13 : IV v32_2 (-2147483648) (-1) := iv_uL iv32_2 (iv_c (by decide) : IV 0 0 0) (iv_nle c11) (by decide)
          have ir13a := ir13.1; have ir13b := ir13.2
          refine lv_aload_n hx hb dX11_eat_36 rfl (lv_at hl 0 rfl) ?_
          refine lv_iload_n hx hb dX11_eat_37 rfl (lv_at hl 1 rfl) ?_
          refine lv_iload_n hx hb dX11_eat_38 rfl (lv_at hl 2 rfl) ?_
          refine lv_ineg hx hb dX11_eat_39 ?_
          refine lv_topi (fun x14 ex14 => ?_)
          have ix14 := iv_top x14
          refine th_callVv (n := 2) (As := [.int v2_1, .int x14]) S hK hH hS (th_A.sub (by decide)) (m_X11_grow l D cT T q hT hq a0 t0 (v2_1) f32_v2_1 (x14) ix14) gm_1729 gm_1726 gm_1728 gm_96 gm_124 (by decide +kernel) ⟨rfl, rfl, Nat.le_of_ble_eq_true rfl, Nat.le_of_ble_eq_true rfl⟩ t0 km_0 rfl rfl hl.1 rfl (Nat.le_of_ble_eq_true rfl) dX11_eat_40 ⟨Nat.zero_le _, Nat.zero_le _⟩ (fun H locs hH hS hF1 => ?_)
          exact J43 H locs ls f32_v2_1 hH hS (lv_sub hl [0, 1] rfl)
      have l1v2_1 := iv2_1.1; have l2v2_1 := iv2_1.2
      refine lv_iload_n hx hb dX11_eat_2 rfl (lv_at hl 1 rfl) ?_
      refine lv_aload_n hx hb dX11_eat_3 rfl (lv_at hl 0 rfl) ?_
      refine th_callVp (n := 0) (As := []) S hK hH hS (th_A.sub (by decide)) (m_X11_many l D cT T q hT hq a0 t0) gm_1229 gm_1226 gm_1228 gm_46 gm_124 (by decide +kernel) ⟨rfl, rfl, Nat.le_of_ble_eq_true rfl, Nat.le_of_ble_eq_true rfl⟩ t0 km_0 rfl rfl hl.1 rfl (Nat.le_of_ble_eq_true rfl) dX11_eat_4 ⟨Nat.zero_le _, Nat.zero_le _⟩ (fun x15 H locs ix15 ox15 hH hS hF1 => ?_)
      have ox15 : x15.toInt = q 11 := ox15
      refine lv_icmp_ge (tgt := 75) hx hb dX11_eat_7 (by decide) (fun c16 => ?_) (fun c16 => ?_)
      · skip
        have rlc16 : x15.toInt ≤ v2_1.toInt := iv_le c16
        exact th_vret S hK hH hS hr hlocks rfl dX11_eat_75
      · skip
        have rlc16 : v2_1.toInt < x15.toInt := iv_nle c16
        have ir17 : IV v2_1 0 3 := iv_uL iv2_1 ix15 (iv_nle c16) (by decide)
        have ir17a := ir17.1; have ir17b := ir17.2
        have ir18 : IV x15 1 4 := iv_uR iv2_1 ix15 (iv_nle c16) (by decide)
        have ir18a := ir18.1; have ir18b := ir18.2
        refine lv_aload_n hx hb dX11_eat_10 rfl (lv_at hl 0 rfl) ?_
        refine lv_iload_n hx hb dX11_eat_11 rfl (lv_at hl 1 rfl) ?_
        refine th_callVi (n := 1) (As := [.int v2_1]) S hK hH hS (th_A.sub (by decide)) (m_X11_hungerOf l D cT T q hT hq a0 t0 (v2_1) ir17 (show v2_1.toInt < q 11 by first | assumption | omega)) gm_1630 gm_1627 gm_1629 gm_81 gm_124 (by decide +kernel) ⟨rfl, rfl, Nat.le_of_ble_eq_true rfl, Nat.le_of_ble_eq_true rfl⟩ t0 km_0 rfl rfl hl.1 rfl (Nat.le_of_ble_eq_true rfl) dX11_eat_12 ⟨Nat.zero_le _, Nat.zero_le _⟩ (fun x19 H locs ix19 hH hS hF1 => ?_)
        refine lv_aload_n hx hb dX11_eat_15 rfl (lv_at hl 0 rfl) ?_
        refine lv_iload_n hx hb dX11_eat_16 rfl (lv_at hl 1 rfl) ?_
        refine th_callVi (n := 1) (As := [.int v2_1]) S hK hH hS (th_A.sub (by decide)) (m_X11_givenTo l D cT T q hT hq a0 t0 (v2_1) ir17) gm_1652 gm_1649 gm_1651 gm_85 gm_124 (by decide +kernel) ⟨rfl, rfl, Nat.le_of_ble_eq_true rfl, Nat.le_of_ble_eq_true rfl⟩ t0 km_0 rfl rfl hl.1 rfl (Nat.le_of_ble_eq_true rfl) dX11_eat_17 ⟨Nat.zero_le _, Nat.zero_le _⟩ (fun x20 H locs ix20 hH hS hF1 => ?_)
        refine lv_isub hx hb dX11_eat_20 ?_
        refine lv_topi (fun x21 ex21 => ?_)
        have ix21 := iv_top x21
        refine lv_istore_n (lv' := [(2, .int x21), (0, .ref a0), (1, .int v2_1)]) hx hb dX11_eat_21 rfl hl (by decide) rfl (fun ls hl => ?_)
        refine lv_iload_n hx hb dX11_eat_22 rfl (lv_at hl 0 rfl) ?_
        refine lv_if_le (tgt := 32) hx hb dX11_eat_23 (by decide) (fun c22 => ?_) (fun c22 => ?_)
        · skip
          have rlc22 : x21.toInt ≤ (0 : Int) := iv_le c22
          have ir23 : IV x21 (-2147483648) 0 := iv_vL ix21 (iv_c (by decide) : IV 0 0 0) (iv_le c22) (by decide)
          have ir23a := ir23.1; have ir23b := ir23.2
          exact J32 H locs ls x21 (iv_top _) ir17 hH hS (lv_sub hl [1, 2, 0] rfl)
        · skip
          have rlc22 : (0 : Int) < x21.toInt := iv_nle c22
          have ir24 : IV x21 1 2147483647 := iv_uR (iv_c (by decide) : IV 0 0 0) ix21 (iv_nle c22) (by decide)
          have ir24a := ir24.1; have ir24b := ir24.2
          refine lv_aload_n hx hb dX11_eat_26 rfl (lv_at hl 1 rfl) ?_
          refine lv_iload_n hx hb dX11_eat_27 rfl (lv_at hl 2 rfl) ?_
          refine lv_iload_n hx hb dX11_eat_28 rfl (lv_at hl 0 rfl) ?_
          refine th_callVv (n := 2) (As := [.int v2_1, .int x21]) S hK hH hS (th_A.sub (by decide)) (m_X11_bite l D cT T q hT hq a0 t0 (v2_1) ir17 (x21) (iv_top _)) gm_1725 gm_1722 gm_1724 gm_95 gm_124 (by decide +kernel) ⟨rfl, rfl, Nat.le_of_ble_eq_true rfl, Nat.le_of_ble_eq_true rfl⟩ t0 km_0 rfl rfl hl.1 rfl (Nat.le_of_ble_eq_true rfl) dX11_eat_29 ⟨Nat.zero_le _, Nat.zero_le _⟩ (fun H locs hH hS hF1 => ?_)
          exact J32 H locs ls x21 (iv_top _) ir17 hH hS (lv_sub hl [1, 2, 0] rfl)
  have J0 : ∀ (H : Heap) (locs : List Loc) (ls : Array Slot), th_H D cT T (km q) H → va_S (th_A T [0, 32, 33]) s.heap H locs → lv_has ls 4 [(0, .ref a0)] → W p l e (rmk 4 95) s m [.ref a0].toArray below meth c H locs 0 0 (MQ below (th_Q D cT T (km q) (th_R T none) [0, 32, 33]) [.ref a0].toArray s 0 0 (th_A T [0, 32, 33])) (F0 m 0 ls []) := by
    intro H locs ls hH hS hl
    refine lv_iconst (v := 0) hx hb dX11_eat_0 (by decide) ?_
    refine lv_istore_n (lv' := [(1, .int 0), (0, .ref a0)]) hx hb dX11_eat_1 rfl hl (by decide) rfl (fun ls hl => ?_)
    exact J2 ((4 + 1 - Int32.toInt 0).toNat + 1) H locs ls 0 (iv_w (iv_c (by decide) : IV 0 0 0) (by decide)) hH hS (lv_sub hl [1, 0] rfl) (Nat.lt_succ_self _)
  exact J0 s.heap [] ls hH va_S.rf hl

set_option maxRecDepth 100000 in
theorem m_X11_goYear (l : Launch) (D : va_G) (cT : Nat → ClassId) (T : Nat → Option Nat) (q : Nat → Int) (hT : tokm T) (hq : qkm q) (a0 : Nat) (t0 : T a0 = some 0) : th_Met l D cT T (km q) yX11_goYear cX11_goYear 1 none (rmk 5 118) [.ref a0] (th_R T none) [0, 32, 33] := by
  refine th_start (by decide) (Nat.le_of_ble_eq_true rfl) ?_
  intro p e s m below meth c ls S hK hH hr hlocks hnm hl
  have hx := S.1
  have hb := S.2.1
  have hl : lv_has ls 1 [(0, .ref a0)] := hl
  have J0 : ∀ (H : Heap) (locs : List Loc) (ls : Array Slot), th_H D cT T (km q) H → va_S (th_A T [0, 32, 33]) s.heap H locs → lv_has ls 1 [(0, .ref a0)] → W p l e (rmk 5 118) s m [.ref a0].toArray below meth c H locs 0 0 (MQ below (th_Q D cT T (km q) (th_R T none) [0, 32, 33]) [.ref a0].toArray s 0 0 (th_A T [0, 32, 33])) (F0 m 0 ls []) := by
    intro H locs ls hH hS hl
    refine lv_aload_n hx hb dX11_goYear_0 rfl (lv_at hl 0 rfl) ?_
    refine th_callVv (n := 0) (As := []) S hK hH hS (th_A.sub (by decide)) (m_X11_eat l D cT T q hT hq a0 t0) gm_1721 gm_1718 gm_1720 gm_94 gm_124 (by decide +kernel) ⟨rfl, rfl, Nat.le_of_ble_eq_true rfl, Nat.le_of_ble_eq_true rfl⟩ t0 km_0 rfl rfl hl.1 rfl (Nat.le_of_ble_eq_true rfl) dX11_goYear_1 ⟨Nat.zero_le _, Nat.zero_le _⟩ (fun H locs hH hS hF1 => ?_)
    refine lv_aload_n hx hb dX11_goYear_4 rfl (lv_at hl 0 rfl) ?_
    refine th_get S hK hH inG11 t0 km_0 rfl 52 (by decide) gm_1282 rfl rfl dX11_goYear_5 (fun v1 hv1 fv1 => ?_)
    obtain ⟨rf2, rfl, trf2⟩ := th_V.ref hv1
    refine lv_bipush (v := 42) hx hb dX11_goYear_8 (by decide) ?_
    refine lv_sipush (v := 137) hx hb dX11_goYear_10 (by decide) ?_
    refine lv_aload_n hx hb dX11_goYear_13 rfl (lv_at hl 0 rfl) ?_
    refine th_getK S hK fv1 inG11 rfl (by decide) gm_1282 rfl dX11_goYear_14 ?_
    refine lv_bipush (v := 42) hx hb dX11_goYear_17 (by decide) ?_
    refine th_iald S hK hH trf2 km_33 (th_in (hi := 42) (iv_w (iv_c (by decide) : IV 42 42 42) (by decide)) (by decide)) dX11_goYear_19 (fun v4 hv4 => ?_)
    obtain ⟨x5, rfl, ix5⟩ := th_V.int hv4
    refine lv_imul hx hb dX11_goYear_20 ?_
    refine lv_topi (fun x6 ex6 => ?_)
    have ix6 := iv_top x6
    refine lv_bipush (v := 71) hx hb dX11_goYear_21 (by decide) ?_
    refine lv_iadd hx hb dX11_goYear_23 ?_
    refine lv_topi (fun x7 ex7 => ?_)
    have ix7 := iv_top x7
    refine lv_sipush (v := 1000) hx hb dX11_goYear_24 (by decide) ?_
    refine lv_irem hx hb dX11_goYear_27 (iv_n0 (iv_c (by decide) : IV 1000 1000 1000) (by decide)) ?_
    refine lv_topi (fun x8 ex8 => ?_)
    have ix8 : IV x8 (-999) 999 := by rw [ex8]; exact iv_rmS (iv_c (by decide) : IV 1000 1000 1000) (by decide)
    refine th_iast S hK hH hS ⟨33, by decide, trf2⟩ trf2 km_33 (th_in (hi := 42) (iv_w (iv_c (by decide) : IV 42 42 42) (by decide)) (by decide)) (th_iv (iv_top _)) dX11_goYear_28 (fun H locs hH hS hq1 => ?_)
    have f9 := fv1.kept (hq1 _ (th_ne t0 trf2 (by decide)))
    refine lv_aload_n hx hb dX11_goYear_29 rfl (lv_at hl 0 rfl) ?_
    refine th_getK S hK f9 inG11 rfl (by decide) gm_1282 rfl dX11_goYear_30 ?_
    refine lv_bipush (v := 41) hx hb dX11_goYear_33 (by decide) ?_
    refine lv_aload_n hx hb dX11_goYear_35 rfl (lv_at hl 0 rfl) ?_
    refine th_getK S hK f9 inG11 rfl (by decide) gm_1282 rfl dX11_goYear_36 ?_
    refine lv_bipush (v := 42) hx hb dX11_goYear_39 (by decide) ?_
    refine th_iald S hK hH trf2 km_33 (th_in (hi := 42) (iv_w (iv_c (by decide) : IV 42 42 42) (by decide)) (by decide)) dX11_goYear_41 (fun v12 hv12 => ?_)
    obtain ⟨x13, rfl, ix13⟩ := th_V.int hv12
    refine lv_bipush (v := 10) hx hb dX11_goYear_42 (by decide) ?_
    refine lv_idiv hx hb dX11_goYear_44 (iv_n0 (iv_c (by decide) : IV 10 10 10) (by decide)) ?_
    refine lv_topi (fun x14 ex14 => ?_)
    have ix14 := iv_top x14
    refine lv_iconst (v := 2) hx hb dX11_goYear_45 (by decide) ?_
    refine lv_irem hx hb dX11_goYear_46 (iv_n0 (iv_c (by decide) : IV 2 2 2) (by decide)) ?_
    refine lv_topi (fun x15 ex15 => ?_)
    have ix15 : IV x15 (-1) 1 := by rw [ex15]; exact iv_rmS (iv_c (by decide) : IV 2 2 2) (by decide)
    refine th_iast S hK hH hS ⟨33, by decide, trf2⟩ trf2 km_33 (th_in (hi := 41) (iv_w (iv_c (by decide) : IV 41 41 41) (by decide)) (by decide)) (th_iv (iv_top _)) dX11_goYear_47 (fun H locs hH hS hq1 => ?_)
    have f16 := f9.kept (hq1 _ (th_ne t0 trf2 (by decide)))
    refine lv_aload_n hx hb dX11_goYear_48 rfl (lv_at hl 0 rfl) ?_
    refine th_getK S hK f16 inG11 rfl (by decide) gm_1282 rfl dX11_goYear_49 ?_
    refine lv_bipush (v := 40) hx hb dX11_goYear_52 (by decide) ?_
    refine lv_dup2_11 hx hb dX11_goYear_54 rfl rfl ?_
    refine th_iald S hK hH trf2 km_33 (th_in (hi := 40) (iv_w (iv_c (by decide) : IV 40 40 40) (by decide)) (by decide)) dX11_goYear_55 (fun v18 hv18 => ?_)
    obtain ⟨x19, rfl, ix19⟩ := th_V.int hv18
    refine lv_iconst (v := 1) hx hb dX11_goYear_56 (by decide) ?_
    refine lv_iadd hx hb dX11_goYear_57 ?_
    refine lv_topi (fun x20 ex20 => ?_)
    have ix20 := iv_top x20
    refine th_iast S hK hH hS ⟨33, by decide, trf2⟩ trf2 km_33 (th_in (hi := 40) (iv_w (iv_c (by decide) : IV 40 40 40) (by decide)) (by decide)) (th_iv ix20) dX11_goYear_58 (fun H locs hH hS hq1 => ?_)
    have f21 := f16.kept (hq1 _ (th_ne t0 trf2 (by decide)))
    exact th_vret S hK hH hS hr hlocks rfl dX11_goYear_59
  exact J0 s.heap [] ls hH va_S.rf hl
