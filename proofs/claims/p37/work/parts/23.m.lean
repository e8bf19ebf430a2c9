theorem dX5_boundUse_0 : decode cX5_boundUse 0 = .ok (.iconst 0, 1) := by decide +kernel
theorem dX5_boundUse_1 : decode cX5_boundUse 1 = .ok (.istore_n 1, 1) := by decide +kernel
theorem dX5_boundUse_2 : decode cX5_boundUse 2 = .ok (.iload_n 1, 1) := by decide +kernel
theorem dX5_boundUse_3 : decode cX5_boundUse 3 = .ok (.aload_n 0, 1) := by decide +kernel
theorem dX5_boundUse_4 : decode cX5_boundUse 4 = .ok (.getfield 52, 3) := by decide +kernel
theorem dX5_boundUse_7 : decode cX5_boundUse 7 = .ok (.getfield 84, 3) := by decide +kernel
theorem dX5_boundUse_10 : decode cX5_boundUse 10 = .ok (.getfield 90, 3) := by decide +kernel
theorem dX5_boundUse_13 : decode cX5_boundUse 13 = .ok (.if_icmp .ge 119, 3) := by decide +kernel
theorem dX5_boundUse_16 : decode cX5_boundUse 16 = .ok (.aload_n 0, 1) := by decide +kernel
theorem dX5_boundUse_17 : decode cX5_boundUse 17 = .ok (.getfield 52, 3) := by decide +kernel
theorem dX5_boundUse_20 : decode cX5_boundUse 20 = .ok (.getfield 84, 3) := by decide +kernel
theorem dX5_boundUse_23 : decode cX5_boundUse 23 = .ok (.getfield 99, 3) := by decide +kernel
theorem dX5_boundUse_26 : decode cX5_boundUse 26 = .ok (.iload_n 1, 1) := by decide +kernel
theorem dX5_boundUse_27 : decode cX5_boundUse 27 = .ok (.iconst 3, 1) := by decide +kernel
theorem dX5_boundUse_28 : decode cX5_boundUse 28 = .ok (.imul, 1) := by decide +kernel
theorem dX5_boundUse_29 : decode cX5_boundUse 29 = .ok (.aload_n 0, 1) := by decide +kernel
theorem dX5_boundUse_30 : decode cX5_boundUse 30 = .ok (.getfield 40, 3) := by decide +kernel
theorem dX5_boundUse_33 : decode cX5_boundUse 33 = .ok (.iadd, 1) := by decide +kernel
theorem dX5_boundUse_34 : decode cX5_boundUse 34 = .ok (.iaload, 1) := by decide +kernel
theorem dX5_boundUse_35 : decode cX5_boundUse 35 = .ok (.istore_n 2, 1) := by decide +kernel
theorem dX5_boundUse_36 : decode cX5_boundUse 36 = .ok (.aload_n 0, 1) := by decide +kernel
theorem dX5_boundUse_37 : decode cX5_boundUse 37 = .ok (.getfield 25, 3) := by decide +kernel
theorem dX5_boundUse_40 : decode cX5_boundUse 40 = .ok (.iload_n 1, 1) := by decide +kernel
theorem dX5_boundUse_41 : decode cX5_boundUse 41 = .ok (.iaload, 1) := by decide +kernel
theorem dX5_boundUse_42 : decode cX5_boundUse 42 = .ok (.aload_n 0, 1) := by decide +kernel
theorem dX5_boundUse_43 : decode cX5_boundUse 43 = .ok (.getfield 52, 3) := by decide +kernel
theorem dX5_boundUse_46 : decode cX5_boundUse 46 = .ok (.aload_n 0, 1) := by decide +kernel
theorem dX5_boundUse_47 : decode cX5_boundUse 47 = .ok (.getfield 21, 3) := by decide +kernel
theorem dX5_boundUse_50 : decode cX5_boundUse 50 = .ok (.iconst 0, 1) := by decide +kernel
theorem dX5_boundUse_51 : decode cX5_boundUse 51 = .ok (.aaload, 1) := by decide +kernel
theorem dX5_boundUse_52 : decode cX5_boundUse 52 = .ok (.iload_n 1, 1) := by decide +kernel
theorem dX5_boundUse_53 : decode cX5_boundUse 53 = .ok (.invokevirtual 102, 3) := by decide +kernel
theorem dX5_boundUse_56 : decode cX5_boundUse 56 = .ok (.isub, 1) := by decide +kernel
theorem dX5_boundUse_57 : decode cX5_boundUse 57 = .ok (.istore_n 3, 1) := by decide +kernel
theorem dX5_boundUse_58 : decode cX5_boundUse 58 = .ok (.iload_n 3, 1) := by decide +kernel
theorem dX5_boundUse_59 : decode cX5_boundUse 59 = .ok (.bipush 60, 2) := by decide +kernel
theorem dX5_boundUse_61 : decode cX5_boundUse 61 = .ok (.iadd, 1) := by decide +kernel
theorem dX5_boundUse_62 : decode cX5_boundUse 62 = .ok (.istore 4, 2) := by decide +kernel
theorem dX5_boundUse_64 : decode cX5_boundUse 64 = .ok (.aload_n 0, 1) := by decide +kernel
theorem dX5_boundUse_65 : decode cX5_boundUse 65 = .ok (.getfield 28, 3) := by decide +kernel
theorem dX5_boundUse_68 : decode cX5_boundUse 68 = .ok (.iload_n 1, 1) := by decide +kernel
theorem dX5_boundUse_69 : decode cX5_boundUse 69 = .ok (.iload_n 2, 1) := by decide +kernel
theorem dX5_boundUse_70 : decode cX5_boundUse 70 = .ok (.ifCond .le 8, 3) := by decide +kernel
theorem dX5_boundUse_73 : decode cX5_boundUse 73 = .ok (.iload 4, 2) := by decide +kernel
theorem dX5_boundUse_75 : decode cX5_boundUse 75 = .ok (.ifCond .gt 7, 3) := by decide +kernel
theorem dX5_boundUse_78 : decode cX5_boundUse 78 = .ok (.iconst 0, 1) := by decide +kernel
theorem dX5_boundUse_79 : decode cX5_boundUse 79 = .ok (.goto 11, 3) := by decide +kernel
theorem dX5_boundUse_82 : decode cX5_boundUse 82 = .ok (.iload 4, 2) := by decide +kernel
theorem dX5_boundUse_84 : decode cX5_boundUse 84 = .ok (.iload_n 2, 1) := by decide +kernel
theorem dX5_boundUse_85 : decode cX5_boundUse 85 = .ok (.iadd, 1) := by decide +kernel
theorem dX5_boundUse_86 : decode cX5_boundUse 86 = .ok (.iconst 1, 1) := by decide +kernel
theorem dX5_boundUse_87 : decode cX5_boundUse 87 = .ok (.isub, 1) := by decide +kernel
theorem dX5_boundUse_88 : decode cX5_boundUse 88 = .ok (.iload_n 2, 1) := by decide +kernel
theorem dX5_boundUse_89 : decode cX5_boundUse 89 = .ok (.idiv, 1) := by decide +kernel
theorem dX5_boundUse_90 : decode cX5_boundUse 90 = .ok (.iastore, 1) := by decide +kernel
theorem dX5_boundUse_91 : decode cX5_boundUse 91 = .ok (.iload_n 3, 1) := by decide +kernel
theorem dX5_boundUse_92 : decode cX5_boundUse 92 = .ok (.ifCond .ge 13, 3) := by decide +kernel
theorem dX5_boundUse_95 : decode cX5_boundUse 95 = .ok (.aload_n 0, 1) := by decide +kernel
theorem dX5_boundUse_96 : decode cX5_boundUse 96 = .ok (.getfield 31, 3) := by decide +kernel
theorem dX5_boundUse_99 : decode cX5_boundUse 99 = .ok (.iload_n 1, 1) := by decide +kernel
theorem dX5_boundUse_100 : decode cX5_boundUse 100 = .ok (.iconst 0, 1) := by decide +kernel
theorem dX5_boundUse_101 : decode cX5_boundUse 101 = .ok (.iastore, 1) := by decide +kernel
theorem dX5_boundUse_102 : decode cX5_boundUse 102 = .ok (.goto 24, 3) := by decide +kernel
theorem dX5_boundUse_105 : decode cX5_boundUse 105 = .ok (.aload_n 0, 1) := by decide +kernel
theorem dX5_boundUse_106 : decode cX5_boundUse 106 = .ok (.getfield 31, 3) := by decide +kernel
theorem dX5_boundUse_109 : decode cX5_boundUse 109 = .ok (.iload_n 1, 1) := by decide +kernel
theorem dX5_boundUse_110 : decode cX5_boundUse 110 = .ok (.iload_n 2, 1) := by decide +kernel
theorem dX5_boundUse_111 : decode cX5_boundUse 111 = .ok (.ifCond .gt 9, 3) := by decide +kernel
theorem dX5_boundUse_114 : decode cX5_boundUse 114 = .ok (.sipush 1000, 3) := by decide +kernel
theorem dX5_boundUse_117 : decode cX5_boundUse 117 = .ok (.goto 8, 3) := by decide +kernel
theorem dX5_boundUse_120 : decode cX5_boundUse 120 = .ok (.iload_n 3, 1) := by decide +kernel
theorem dX5_boundUse_121 : decode cX5_boundUse 121 = .ok (.iload_n 2, 1) := by decide +kernel
theorem dX5_boundUse_122 : decode cX5_boundUse 122 = .ok (.idiv, 1) := by decide +kernel
theorem dX5_boundUse_123 : decode cX5_boundUse 123 = .ok (.iconst 1, 1) := by decide +kernel
theorem dX5_boundUse_124 : decode cX5_boundUse 124 = .ok (.iadd, 1) := by decide +kernel
theorem dX5_boundUse_125 : decode cX5_boundUse 125 = .ok (.iastore, 1) := by decide +kernel
theorem dX5_boundUse_126 : decode cX5_boundUse 126 = .ok (.iinc 1 1, 3) := by decide +kernel
theorem dX5_boundUse_129 : decode cX5_boundUse 129 = .ok (.goto (-127), 3) := by decide +kernel
theorem dX5_boundUse_132 : decode cX5_boundUse 132 = .ok (.return_, 1) := by decide +kernel
theorem dX5_canMend_0 : decode cX5_canMend 0 = .ok (.iconst 0, 1) := by decide +kernel
theorem dX5_canMend_1 : decode cX5_canMend 1 = .ok (.istore 4, 2) := by decide +kernel
theorem dX5_canMend_3 : decode cX5_canMend 3 = .ok (.iconst 0, 1) := by decide +kernel
theorem dX5_canMend_4 : decode cX5_canMend 4 = .ok (.istore 5, 2) := by decide +kernel
theorem dX5_canMend_6 : decode cX5_canMend 6 = .ok (.iload_n 2, 1) := by decide +kernel
theorem dX5_canMend_7 : decode cX5_canMend 7 = .ok (.istore 6, 2) := by decide +kernel
theorem dX5_canMend_9 : decode cX5_canMend 9 = .ok (.iload 6, 2) := by decide +kernel
theorem dX5_canMend_11 : decode cX5_canMend 11 = .ok (.aload_n 0, 1) := by decide +kernel
theorem dX5_canMend_12 : decode cX5_canMend 12 = .ok (.getfield 52, 3) := by decide +kernel
theorem dX5_canMend_15 : decode cX5_canMend 15 = .ok (.getfield 84, 3) := by decide +kernel
theorem dX5_canMend_18 : decode cX5_canMend 18 = .ok (.getfield 90, 3) := by decide +kernel
theorem dX5_canMend_21 : decode cX5_canMend 21 = .ok (.if_icmp .ge 41, 3) := by decide +kernel
theorem dX5_canMend_24 : decode cX5_canMend 24 = .ok (.aload_n 0, 1) := by decide +kernel
theorem dX5_canMend_25 : decode cX5_canMend 25 = .ok (.getfield 31, 3) := by decide +kernel
theorem dX5_canMend_28 : decode cX5_canMend 28 = .ok (.iload 6, 2) := by decide +kernel
theorem dX5_canMend_30 : decode cX5_canMend 30 = .ok (.iaload, 1) := by decide +kernel
theorem dX5_canMend_31 : decode cX5_canMend 31 = .ok (.iload_n 3, 1) := by decide +kernel
theorem dX5_canMend_32 : decode cX5_canMend 32 = .ok (.if_icmp .gt 24, 3) := by decide +kernel
theorem dX5_canMend_35 : decode cX5_canMend 35 = .ok (.iload 4, 2) := by decide +kernel
theorem dX5_canMend_37 : decode cX5_canMend 37 = .ok (.aload_n 0, 1) := by decide +kernel
theorem dX5_canMend_38 : decode cX5_canMend 38 = .ok (.getfield 52, 3) := by decide +kernel
theorem dX5_canMend_41 : decode cX5_canMend 41 = .ok (.getfield 84, 3) := by decide +kernel
theorem dX5_canMend_44 : decode cX5_canMend 44 = .ok (.getfield 105, 3) := by decide +kernel
theorem dX5_canMend_47 : decode cX5_canMend 47 = .ok (.iload 6, 2) := by decide +kernel
theorem dX5_canMend_49 : decode cX5_canMend 49 = .ok (.iaload, 1) := by decide +kernel
theorem dX5_canMend_50 : decode cX5_canMend 50 = .ok (.ior, 1) := by decide +kernel
theorem dX5_canMend_51 : decode cX5_canMend 51 = .ok (.istore 4, 2) := by decide +kernel
theorem dX5_canMend_53 : decode cX5_canMend 53 = .ok (.iinc 5 1, 3) := by decide +kernel
theorem dX5_canMend_56 : decode cX5_canMend 56 = .ok (.iinc 6 1, 3) := by decide +kernel
theorem dX5_canMend_59 : decode cX5_canMend 59 = .ok (.goto (-50), 3) := by decide +kernel
theorem dX5_canMend_62 : decode cX5_canMend 62 = .ok (.iload_n 1, 1) := by decide +kernel
theorem dX5_canMend_63 : decode cX5_canMend 63 = .ok (.iload 4, 2) := by decide +kernel
theorem dX5_canMend_65 : decode cX5_canMend 65 = .ok (.iconst (-1), 1) := by decide +kernel
theorem dX5_canMend_66 : decode cX5_canMend 66 = .ok (.ixor, 1) := by decide +kernel
theorem dX5_canMend_67 : decode cX5_canMend 67 = .ok (.iand, 1) := by decide +kernel
theorem dX5_canMend_68 : decode cX5_canMend 68 = .ok (.ifCond .ne 16, 3) := by decide +kernel
theorem dX5_canMend_71 : decode cX5_canMend 71 = .ok (.iload_n 1, 1) := by decide +kernel
theorem dX5_canMend_72 : decode cX5_canMend 72 = .ok (.invokestatic 108, 3) := by decide +kernel
theorem dX5_canMend_75 : decode cX5_canMend 75 = .ok (.iload 5, 2) := by decide +kernel
theorem dX5_canMend_77 : decode cX5_canMend 77 = .ok (.if_icmp .gt 7, 3) := by decide +kernel
theorem dX5_canMend_80 : decode cX5_canMend 80 = .ok (.iconst 1, 1) := by decide +kernel
theorem dX5_canMend_81 : decode cX5_canMend 81 = .ok (.goto 4, 3) := by decide +kernel
theorem dX5_canMend_84 : decode cX5_canMend 84 = .ok (.iconst 0, 1) := by decide +kernel
theorem dX5_canMend_85 : decode cX5_canMend 85 = .ok (.ireturn, 1) := by decide +kernel
theorem dX5_layWay_0 : decode cX5_layWay 0 = .ok (.aload_n 0, 1) := by decide +kernel
theorem dX5_layWay_1 : decode cX5_layWay 1 = .ok (.aload_n 0, 1) := by decide +kernel
theorem dX5_layWay_2 : decode cX5_layWay 2 = .ok (.getfield 52, 3) := by decide +kernel
theorem dX5_layWay_5 : decode cX5_layWay 5 = .ok (.getfield 84, 3) := by decide +kernel
theorem dX5_layWay_8 : decode cX5_layWay 8 = .ok (.getfield 90, 3) := by decide +kernel
theorem dX5_layWay_11 : decode cX5_layWay 11 = .ok (.putfield 15, 3) := by decide +kernel
theorem dX5_layWay_14 : decode cX5_layWay 14 = .ok (.aload_n 0, 1) := by decide +kernel
theorem dX5_layWay_15 : decode cX5_layWay 15 = .ok (.getfield 34, 3) := by decide +kernel
theorem dX5_layWay_18 : decode cX5_layWay 18 = .ok (.iconst 0, 1) := by decide +kernel
theorem dX5_layWay_19 : decode cX5_layWay 19 = .ok (.aload_n 0, 1) := by decide +kernel
theorem dX5_layWay_20 : decode cX5_layWay 20 = .ok (.getfield 9, 3) := by decide +kernel
theorem dX5_layWay_23 : decode cX5_layWay 23 = .ok (.iconst 0, 1) := by decide +kernel
theorem dX5_layWay_24 : decode cX5_layWay 24 = .ok (.iconst 4, 1) := by decide +kernel
theorem dX5_layWay_25 : decode cX5_layWay 25 = .ok (.invokestatic 139, 3) := by decide +kernel
theorem dX5_layWay_28 : decode cX5_layWay 28 = .ok (.return_, 1) := by decide +kernel
theorem dX5_serve_0 : decode cX5_serve 0 = .ok (.aload_n 0, 1) := by decide +kernel
theorem dX5_serve_1 : decode cX5_serve 1 = .ok (.getfield 34, 3) := by decide +kernel
theorem dX5_serve_4 : decode cX5_serve 4 = .ok (.iload_n 1, 1) := by decide +kernel
theorem dX5_serve_5 : decode cX5_serve 5 = .ok (.iload_n 2, 1) := by decide +kernel
theorem dX5_serve_6 : decode cX5_serve 6 = .ok (.iastore, 1) := by decide +kernel
theorem dX5_serve_7 : decode cX5_serve 7 = .ok (.aload_n 0, 1) := by decide +kernel
theorem dX5_serve_8 : decode cX5_serve 8 = .ok (.getfield 21, 3) := by decide +kernel
theorem dX5_serve_11 : decode cX5_serve 11 = .ok (.iload_n 1, 1) := by decide +kernel
theorem dX5_serve_12 : decode cX5_serve 12 = .ok (.iconst 1, 1) := by decide +kernel
theorem dX5_serve_13 : decode cX5_serve 13 = .ok (.iadd, 1) := by decide +kernel
theorem dX5_serve_14 : decode cX5_serve 14 = .ok (.aaload, 1) := by decide +kernel
theorem dX5_serve_15 : decode cX5_serve 15 = .ok (.astore_n 3, 1) := by decide +kernel
theorem dX5_serve_16 : decode cX5_serve 16 = .ok (.aload_n 3, 1) := by decide +kernel
theorem dX5_serve_17 : decode cX5_serve 17 = .ok (.aload_n 0, 1) := by decide +kernel
theorem dX5_serve_18 : decode cX5_serve 18 = .ok (.getfield 21, 3) := by decide +kernel
theorem dX5_serve_21 : decode cX5_serve 21 = .ok (.iload_n 1, 1) := by decide +kernel
theorem dX5_serve_22 : decode cX5_serve 22 = .ok (.aaload, 1) := by decide +kernel
theorem dX5_serve_23 : decode cX5_serve 23 = .ok (.invokevirtual 80, 3) := by decide +kernel
theorem dX5_serve_26 : decode cX5_serve 26 = .ok (.aload_n 3, 1) := by decide +kernel
theorem dX5_serve_27 : decode cX5_serve 27 = .ok (.getfield 64, 3) := by decide +kernel
theorem dX5_serve_30 : decode cX5_serve 30 = .ok (.iconst 3, 1) := by decide +kernel
theorem dX5_serve_31 : decode cX5_serve 31 = .ok (.iload_n 1, 1) := by decide +kernel
theorem dX5_serve_32 : decode cX5_serve 32 = .ok (.iconst 3, 1) := by decide +kernel
theorem dX5_serve_33 : decode cX5_serve 33 = .ok (.imul, 1) := by decide +kernel
theorem dX5_serve_34 : decode cX5_serve 34 = .ok (.iadd, 1) := by decide +kernel
theorem dX5_serve_35 : decode cX5_serve 35 = .ok (.aload_n 0, 1) := by decide +kernel
theorem dX5_serve_36 : decode cX5_serve 36 = .ok (.getfield 40, 3) := by decide +kernel
theorem dX5_serve_39 : decode cX5_serve 39 = .ok (.iadd, 1) := by decide +kernel
theorem dX5_serve_40 : decode cX5_serve 40 = .ok (.dup2, 1) := by decide +kernel
theorem dX5_serve_41 : decode cX5_serve 41 = .ok (.iaload, 1) := by decide +kernel
theorem dX5_serve_42 : decode cX5_serve 42 = .ok (.iload_n 2, 1) := by decide +kernel
theorem dX5_serve_43 : decode cX5_serve 43 = .ok (.iadd, 1) := by decide +kernel
theorem dX5_serve_44 : decode cX5_serve 44 = .ok (.iastore, 1) := by decide +kernel
theorem dX5_serve_45 : decode cX5_serve 45 = .ok (.aload_n 0, 1) := by decide +kernel
theorem dX5_serve_46 : decode cX5_serve 46 = .ok (.getfield 52, 3) := by decide +kernel
theorem dX5_serve_49 : decode cX5_serve 49 = .ok (.aload_n 3, 1) := by decide +kernel
theorem dX5_serve_50 : decode cX5_serve 50 = .ok (.iload_n 1, 1) := by decide +kernel
theorem dX5_serve_51 : decode cX5_serve 51 = .ok (.aload_n 0, 1) := by decide +kernel
theorem dX5_serve_52 : decode cX5_serve 52 = .ok (.getfield 25, 3) := by decide +kernel
theorem dX5_serve_55 : decode cX5_serve 55 = .ok (.iload_n 1, 1) := by decide +kernel
theorem dX5_serve_56 : decode cX5_serve 56 = .ok (.iaload, 1) := by decide +kernel
theorem dX5_serve_57 : decode cX5_serve 57 = .ok (.invokevirtual 135, 3) := by decide +kernel
theorem dX5_serve_60 : decode cX5_serve 60 = .ok (.return_, 1) := by decide +kernel
theorem dX5_findSparing_0 : decode cX5_findSparing 0 = .ok (.aload_n 0, 1) := by decide +kernel
theorem dX5_findSparing_1 : decode cX5_findSparing 1 = .ok (.getfield 46, 3) := by decide +kernel
theorem dX5_findSparing_4 : decode cX5_findSparing 4 = .ok (.iconst 1, 1) := by decide +kernel
theorem dX5_findSparing_5 : decode cX5_findSparing 5 = .ok (.isub, 1) := by decide +kernel
theorem dX5_findSparing_6 : decode cX5_findSparing 6 = .ok (.iload_n 2, 1) := by decide +kernel
theorem dX5_findSparing_7 : decode cX5_findSparing 7 = .ok (.isub, 1) := by decide +kernel
theorem dX5_findSparing_8 : decode cX5_findSparing 8 = .ok (.istore_n 3, 1) := by decide +kernel
theorem dX5_findSparing_9 : decode cX5_findSparing 9 = .ok (.aload_n 0, 1) := by decide +kernel
theorem dX5_findSparing_10 : decode cX5_findSparing 10 = .ok (.getfield 52, 3) := by decide +kernel
theorem dX5_findSparing_13 : decode cX5_findSparing 13 = .ok (.aload_n 0, 1) := by decide +kernel
theorem dX5_findSparing_14 : decode cX5_findSparing 14 = .ok (.getfield 21, 3) := by decide +kernel
theorem dX5_findSparing_17 : decode cX5_findSparing 17 = .ok (.iconst 0, 1) := by decide +kernel
theorem dX5_findSparing_18 : decode cX5_findSparing 18 = .ok (.aaload, 1) := by decide +kernel
theorem dX5_findSparing_19 : decode cX5_findSparing 19 = .ok (.aload_n 0, 1) := by decide +kernel
theorem dX5_findSparing_20 : decode cX5_findSparing 20 = .ok (.getfield 21, 3) := by decide +kernel
theorem dX5_findSparing_23 : decode cX5_findSparing 23 = .ok (.iload_n 1, 1) := by decide +kernel
theorem dX5_findSparing_24 : decode cX5_findSparing 24 = .ok (.aaload, 1) := by decide +kernel
theorem dX5_findSparing_25 : decode cX5_findSparing 25 = .ok (.invokevirtual 114, 3) := by decide +kernel
theorem dX5_findSparing_28 : decode cX5_findSparing 28 = .ok (.aload_n 0, 1) := by decide +kernel
theorem dX5_findSparing_29 : decode cX5_findSparing 29 = .ok (.getfield 43, 3) := by decide +kernel
theorem dX5_findSparing_32 : decode cX5_findSparing 32 = .ok (.iand, 1) := by decide +kernel
theorem dX5_findSparing_33 : decode cX5_findSparing 33 = .ok (.istore 4, 2) := by decide +kernel
theorem dX5_findSparing_35 : decode cX5_findSparing 35 = .ok (.aload_n 0, 1) := by decide +kernel
theorem dX5_findSparing_36 : decode cX5_findSparing 36 = .ok (.iload 4, 2) := by decide +kernel
theorem dX5_findSparing_38 : decode cX5_findSparing 38 = .ok (.iload_n 1, 1) := by decide +kernel
theorem dX5_findSparing_39 : decode cX5_findSparing 39 = .ok (.iload_n 3, 1) := by decide +kernel
theorem dX5_findSparing_40 : decode cX5_findSparing 40 = .ok (.invokevirtual 118, 3) := by decide +kernel
theorem dX5_findSparing_43 : decode cX5_findSparing 43 = .ok (.ifCond .ne 4, 3) := by decide +kernel
theorem dX5_findSparing_46 : decode cX5_findSparing 46 = .ok (.return_, 1) := by decide +kernel
theorem dX5_findSparing_47 : decode cX5_findSparing 47 = .ok (.iload_n 1, 1) := by decide +kernel
theorem dX5_findSparing_48 : decode cX5_findSparing 48 = .ok (.aload_n 0, 1) := by decide +kernel
theorem dX5_findSparing_49 : decode cX5_findSparing 49 = .ok (.getfield 52, 3) := by decide +kernel
theorem dX5_findSparing_52 : decode cX5_findSparing 52 = .ok (.getfield 84, 3) := by decide +kernel
theorem dX5_findSparing_55 : decode cX5_findSparing 55 = .ok (.getfield 90, 3) := by decide +kernel
theorem dX5_findSparing_58 : decode cX5_findSparing 58 = .ok (.if_icmp .lt 13, 3) := by decide +kernel
theorem dX5_findSparing_61 : decode cX5_findSparing 61 = .ok (.aload_n 0, 1) := by decide +kernel
theorem dX5_findSparing_62 : decode cX5_findSparing 62 = .ok (.iload_n 2, 1) := by decide +kernel
theorem dX5_findSparing_63 : decode cX5_findSparing 63 = .ok (.putfield 46, 3) := by decide +kernel
theorem dX5_findSparing_66 : decode cX5_findSparing 66 = .ok (.aload_n 0, 1) := by decide +kernel
theorem dX5_findSparing_67 : decode cX5_findSparing 67 = .ok (.invokevirtual 122, 3) := by decide +kernel
theorem dX5_findSparing_70 : decode cX5_findSparing 70 = .ok (.return_, 1) := by decide +kernel
theorem dX5_findSparing_71 : decode cX5_findSparing 71 = .ok (.iload_n 3, 1) := by decide +kernel
theorem dX5_findSparing_72 : decode cX5_findSparing 72 = .ok (.aload_n 0, 1) := by decide +kernel
theorem dX5_findSparing_73 : decode cX5_findSparing 73 = .ok (.getfield 28, 3) := by decide +kernel
theorem dX5_findSparing_76 : decode cX5_findSparing 76 = .ok (.iload_n 1, 1) := by decide +kernel
theorem dX5_findSparing_77 : decode cX5_findSparing 77 = .ok (.iaload, 1) := by decide +kernel
theorem dX5_findSparing_78 : decode cX5_findSparing 78 = .ok (.invokestatic 67, 3) := by decide +kernel
theorem dX5_findSparing_81 : decode cX5_findSparing 81 = .ok (.istore 5, 2) := by decide +kernel
theorem dX5_findSparing_83 : decode cX5_findSparing 83 = .ok (.iload_n 1, 1) := by decide +kernel
theorem dX5_findSparing_84 : decode cX5_findSparing 84 = .ok (.aload_n 0, 1) := by decide +kernel
theorem dX5_findSparing_85 : decode cX5_findSparing 85 = .ok (.getfield 52, 3) := by decide +kernel
theorem dX5_findSparing_88 : decode cX5_findSparing 88 = .ok (.getfield 84, 3) := by decide +kernel
theorem dX5_findSparing_91 : decode cX5_findSparing 91 = .ok (.getfield 90, 3) := by decide +kernel
theorem dX5_findSparing_94 : decode cX5_findSparing 94 = .ok (.iconst 1, 1) := by decide +kernel
theorem dX5_findSparing_95 : decode cX5_findSparing 95 = .ok (.isub, 1) := by decide +kernel
theorem dX5_findSparing_96 : decode cX5_findSparing 96 = .ok (.if_icmp .ne 7, 3) := by decide +kernel
theorem dX5_findSparing_99 : decode cX5_findSparing 99 = .ok (.iconst 1, 1) := by decide +kernel
theorem dX5_findSparing_100 : decode cX5_findSparing 100 = .ok (.goto 4, 3) := by decide +kernel
theorem dX5_findSparing_103 : decode cX5_findSparing 103 = .ok (.iconst 0, 1) := by decide +kernel
theorem dX5_findSparing_104 : decode cX5_findSparing 104 = .ok (.istore 6, 2) := by decide +kernel
theorem dX5_findSparing_106 : decode cX5_findSparing 106 = .ok (.iconst 0, 1) := by decide +kernel
theorem dX5_findSparing_107 : decode cX5_findSparing 107 = .ok (.istore 7, 2) := by decide +kernel
theorem dX5_findSparing_109 : decode cX5_findSparing 109 = .ok (.iload 7, 2) := by decide +kernel
theorem dX5_findSparing_111 : decode cX5_findSparing 111 = .ok (.iload 5, 2) := by decide +kernel
theorem dX5_findSparing_113 : decode cX5_findSparing 113 = .ok (.if_icmp .gt 73, 3) := by decide +kernel
theorem dX5_findSparing_116 : decode cX5_findSparing 116 = .ok (.iload 6, 2) := by decide +kernel
theorem dX5_findSparing_118 : decode cX5_findSparing 118 = .ok (.ifCond .eq 11, 3) := by decide +kernel
theorem dX5_findSparing_121 : decode cX5_findSparing 121 = .ok (.iload 5, 2) := by decide +kernel
theorem dX5_findSparing_123 : decode cX5_findSparing 123 = .ok (.iload 7, 2) := by decide +kernel
theorem dX5_findSparing_125 : decode cX5_findSparing 125 = .ok (.isub, 1) := by decide +kernel
theorem dX5_findSparing_126 : decode cX5_findSparing 126 = .ok (.goto 5, 3) := by decide +kernel
theorem dX5_findSparing_129 : decode cX5_findSparing 129 = .ok (.iload 7, 2) := by decide +kernel
theorem dX5_findSparing_131 : decode cX5_findSparing 131 = .ok (.istore 8, 2) := by decide +kernel
theorem dX5_findSparing_133 : decode cX5_findSparing 133 = .ok (.iload_n 2, 1) := by decide +kernel
theorem dX5_findSparing_134 : decode cX5_findSparing 134 = .ok (.iload 8, 2) := by decide +kernel
theorem dX5_findSparing_136 : decode cX5_findSparing 136 = .ok (.iadd, 1) := by decide +kernel
theorem dX5_findSparing_137 : decode cX5_findSparing 137 = .ok (.aload_n 0, 1) := by decide +kernel
theorem dX5_findSparing_138 : decode cX5_findSparing 138 = .ok (.getfield 46, 3) := by decide +kernel
theorem dX5_findSparing_141 : decode cX5_findSparing 141 = .ok (.if_icmp .lt 4, 3) := by decide +kernel
theorem dX5_findSparing_144 : decode cX5_findSparing 144 = .ok (.return_, 1) := by decide +kernel
theorem dX5_findSparing_145 : decode cX5_findSparing 145 = .ok (.aload_n 0, 1) := by decide +kernel
theorem dX5_findSparing_146 : decode cX5_findSparing 146 = .ok (.iload_n 1, 1) := by decide +kernel
theorem dX5_findSparing_147 : decode cX5_findSparing 147 = .ok (.iload 8, 2) := by decide +kernel
theorem dX5_findSparing_149 : decode cX5_findSparing 149 = .ok (.invokevirtual 125, 3) := by decide +kernel
theorem dX5_findSparing_152 : decode cX5_findSparing 152 = .ok (.aload_n 0, 1) := by decide +kernel
theorem dX5_findSparing_153 : decode cX5_findSparing 153 = .ok (.iload_n 1, 1) := by decide +kernel
theorem dX5_findSparing_154 : decode cX5_findSparing 154 = .ok (.iconst 1, 1) := by decide +kernel
theorem dX5_findSparing_155 : decode cX5_findSparing 155 = .ok (.iadd, 1) := by decide +kernel
theorem dX5_findSparing_156 : decode cX5_findSparing 156 = .ok (.iload_n 2, 1) := by decide +kernel
theorem dX5_findSparing_157 : decode cX5_findSparing 157 = .ok (.iload 8, 2) := by decide +kernel
theorem dX5_findSparing_159 : decode cX5_findSparing 159 = .ok (.iadd, 1) := by decide +kernel
theorem dX5_findSparing_160 : decode cX5_findSparing 160 = .ok (.invokevirtual 73, 3) := by decide +kernel
theorem dX5_findSparing_163 : decode cX5_findSparing 163 = .ok (.iload 6, 2) := by decide +kernel
theorem dX5_findSparing_165 : decode cX5_findSparing 165 = .ok (.ifCond .eq 15, 3) := by decide +kernel
theorem dX5_findSparing_168 : decode cX5_findSparing 168 = .ok (.aload_n 0, 1) := by decide +kernel
theorem dX5_findSparing_169 : decode cX5_findSparing 169 = .ok (.getfield 46, 3) := by decide +kernel
theorem dX5_findSparing_172 : decode cX5_findSparing 172 = .ok (.iload_n 2, 1) := by decide +kernel
theorem dX5_findSparing_173 : decode cX5_findSparing 173 = .ok (.iload 8, 2) := by decide +kernel
theorem dX5_findSparing_175 : decode cX5_findSparing 175 = .ok (.iadd, 1) := by decide +kernel
theorem dX5_findSparing_176 : decode cX5_findSparing 176 = .ok (.if_icmp .le 4, 3) := by decide +kernel
theorem dX5_findSparing_179 : decode cX5_findSparing 179 = .ok (.return_, 1) := by decide +kernel
theorem dX5_findSparing_180 : decode cX5_findSparing 180 = .ok (.iinc 7 1, 3) := by decide +kernel
theorem dX5_findSparing_183 : decode cX5_findSparing 183 = .ok (.goto (-74), 3) := by decide +kernel
theorem dX5_findSparing_186 : decode cX5_findSparing 186 = .ok (.return_, 1) := by decide +kernel
theorem dX5_fewest_0 : decode cX5_fewest 0 = .ok (.aload_n 0, 1) := by decide +kernel
theorem dX5_fewest_1 : decode cX5_fewest 1 = .ok (.aload_n 1, 1) := by decide +kernel
theorem dX5_fewest_2 : decode cX5_fewest 2 = .ok (.iload_n 2, 1) := by decide +kernel
theorem dX5_fewest_3 : decode cX5_fewest 3 = .ok (.invokevirtual 57, 3) := by decide +kernel
theorem dX5_fewest_6 : decode cX5_fewest 6 = .ok (.aload_n 0, 1) := by decide +kernel
theorem dX5_fewest_7 : decode cX5_fewest 7 = .ok (.invokevirtual 61, 3) := by decide +kernel
theorem dX5_fewest_10 : decode cX5_fewest 10 = .ok (.aload_n 0, 1) := by decide +kernel
theorem dX5_fewest_11 : decode cX5_fewest 11 = .ok (.iload_n 3, 1) := by decide +kernel
theorem dX5_fewest_12 : decode cX5_fewest 12 = .ok (.putfield 43, 3) := by decide +kernel
theorem dX5_fewest_15 : decode cX5_fewest 15 = .ok (.bipush 24, 2) := by decide +kernel
theorem dX5_fewest_17 : decode cX5_fewest 17 = .ok (.aload_n 1, 1) := by decide +kernel
theorem dX5_fewest_18 : decode cX5_fewest 18 = .ok (.getfield 64, 3) := by decide +kernel
theorem dX5_fewest_21 : decode cX5_fewest 21 = .ok (.iconst 0, 1) := by decide +kernel
theorem dX5_fewest_22 : decode cX5_fewest 22 = .ok (.aload_n 0, 1) := by decide +kernel
theorem dX5_fewest_23 : decode cX5_fewest 23 = .ok (.getfield 40, 3) := by decide +kernel
theorem dX5_fewest_26 : decode cX5_fewest 26 = .ok (.iadd, 1) := by decide +kernel
theorem dX5_fewest_27 : decode cX5_fewest 27 = .ok (.iaload, 1) := by decide +kernel
theorem dX5_fewest_28 : decode cX5_fewest 28 = .ok (.invokestatic 67, 3) := by decide +kernel
theorem dX5_fewest_31 : decode cX5_fewest 31 = .ok (.istore 4, 2) := by decide +kernel
theorem dX5_fewest_33 : decode cX5_fewest 33 = .ok (.aload_n 0, 1) := by decide +kernel
theorem dX5_fewest_34 : decode cX5_fewest 34 = .ok (.iload 4, 2) := by decide +kernel
theorem dX5_fewest_36 : decode cX5_fewest 36 = .ok (.iconst 1, 1) := by decide +kernel
theorem dX5_fewest_37 : decode cX5_fewest 37 = .ok (.iadd, 1) := by decide +kernel
theorem dX5_fewest_38 : decode cX5_fewest 38 = .ok (.putfield 46, 3) := by decide +kernel
theorem dX5_fewest_41 : decode cX5_fewest 41 = .ok (.aload_n 0, 1) := by decide +kernel
theorem dX5_fewest_42 : decode cX5_fewest 42 = .ok (.iconst 0, 1) := by decide +kernel
theorem dX5_fewest_43 : decode cX5_fewest 43 = .ok (.iconst 0, 1) := by decide +kernel
theorem dX5_fewest_44 : decode cX5_fewest 44 = .ok (.invokevirtual 73, 3) := by decide +kernel
theorem dX5_fewest_47 : decode cX5_fewest 47 = .ok (.aload_n 0, 1) := by decide +kernel
theorem dX5_fewest_48 : decode cX5_fewest 48 = .ok (.getfield 46, 3) := by decide +kernel
theorem dX5_fewest_51 : decode cX5_fewest 51 = .ok (.iload 4, 2) := by decide +kernel
theorem dX5_fewest_53 : decode cX5_fewest 53 = .ok (.if_icmp .le 7, 3) := by decide +kernel
theorem dX5_fewest_56 : decode cX5_fewest 56 = .ok (.iconst (-1), 1) := by decide +kernel
theorem dX5_fewest_57 : decode cX5_fewest 57 = .ok (.goto 7, 3) := by decide +kernel
theorem dX5_fewest_60 : decode cX5_fewest 60 = .ok (.aload_n 0, 1) := by decide +kernel
theorem dX5_fewest_61 : decode cX5_fewest 61 = .ok (.getfield 46, 3) := by decide +kernel
theorem dX5_fewest_64 : decode cX5_fewest 64 = .ok (.ireturn, 1) := by decide +kernel
theorem dX5_leastFor_0 : decode cX5_leastFor 0 = .ok (.iload_n 1, 1) := by decide +kernel
theorem dX5_leastFor_1 : decode cX5_leastFor 1 = .ok (.aload_n 0, 1) := by decide +kernel
theorem dX5_leastFor_2 : decode cX5_leastFor 2 = .ok (.getfield 52, 3) := by decide +kernel
theorem dX5_leastFor_5 : decode cX5_leastFor 5 = .ok (.getfield 84, 3) := by decide +kernel
theorem dX5_leastFor_8 : decode cX5_leastFor 8 = .ok (.getfield 90, 3) := by decide +kernel
theorem dX5_leastFor_11 : decode cX5_leastFor 11 = .ok (.iconst 1, 1) := by decide +kernel
theorem dX5_leastFor_12 : decode cX5_leastFor 12 = .ok (.isub, 1) := by decide +kernel
theorem dX5_leastFor_13 : decode cX5_leastFor 13 = .ok (.if_icmp .ne 7, 3) := by decide +kernel
theorem dX5_leastFor_16 : decode cX5_leastFor 16 = .ok (.iload_n 2, 1) := by decide +kernel
theorem dX5_leastFor_17 : decode cX5_leastFor 17 = .ok (.goto 4, 3) := by decide +kernel
theorem dX5_leastFor_20 : decode cX5_leastFor 20 = .ok (.iconst 0, 1) := by decide +kernel
theorem dX5_leastFor_21 : decode cX5_leastFor 21 = .ok (.ireturn, 1) := by decide +kernel
set_option maxRecDepth 100000 in
theorem m_X5_boundUse (l : Launch) (D : va_G) (cT : Nat → ClassId) (T : Nat → Option Nat) (q : Nat → Int) (hq : qok q) (a0 : Nat) (t0 : T a0 = some 7) : th_Met l D cT T (kd q) yX5_boundUse cX5_boundUse 5 none (rmk 1 25) [.ref a0] (th_R T none) [36, 37] := by
  refine th_start (by decide) (Nat.le_of_ble_eq_true rfl) ?_
  intro p e s m below meth c ls S hK hH hr hlocks hnm hl
  have hx := S.1
  have hb := S.2.1
  have hl : lv_has ls 5 [(0, .ref a0)] := hl
  have J2 : ∀ (n : Nat) (H : Heap) (locs : List Loc) (ls : Array Slot) (v2_1 : Int32), IV v2_1 0 4 → th_H D cT T (kd q) H → va_S (th_A T [36, 37]) s.heap H locs → lv_has ls 5 [(0, .ref a0), (1, .int v2_1)] → (4 + 1 - v2_1.toInt).toNat < n → W p l e (rmk 1 25) s m [.ref a0].toArray below meth c H locs 0 0 (MQ below (th_Q D cT T (kd q) (th_R T none) [36, 37]) [.ref a0].toArray s 0 0 (th_A T [36, 37])) (F0 m 2 ls []) := by
    intro n
    induction n with
    | zero => intro H locs ls v2_1 iv2_1 hH hS hl hn; exact absurd hn (Nat.not_lt_zero _)
    | succ n ih2 =>
      intro H locs ls v2_1 iv2_1 hH hS hl hn2
      have J126 : ∀ (H : Heap) (locs : List Loc) (ls : Array Slot), IV v2_1 0 3 → th_H D cT T (kd q) H → va_S (th_A T [36, 37]) s.heap H locs → lv_has ls 5 [(0, .ref a0), (1, .int v2_1)] → W p l e (rmk 1 25) s m [.ref a0].toArray below meth c H locs 0 0 (MQ below (th_Q D cT T (kd q) (th_R T none) [36, 37]) [.ref a0].toArray s 0 0 (th_A T [36, 37])) (F0 m 126 ls []) := by
        intro H locs ls f126_v2_1 hH hS hl
        refine th_iinc S dX5_boundUse_126 hl (k := 1) rfl (by decide) f126_v2_1 (by decide) (fun x1 ls ex1 ix1 hl => ?_)
        have hl : lv_has ls 5 [(1, .int x1), (0, .ref a0)] := hl
        have ix1 : IV x1 1 4 := ix1
        refine lv_goto (tgt := 2) hx hb dX5_boundUse_129 (by decide) ?_
        exact ih2 H locs ls x1 (iv_w ix1 (by decide)) hH hS (lv_sub hl [1, 0] rfl) (th_up iv2_1 ex1 (by decide) hn2)
      have J125 : ∀ (H : Heap) (locs : List Loc) (ls : Array Slot) (w125_0 : Nat) (w125_2 : Int32), T w125_0 = some 37 → IV w125_2 (-2147483648) 2147483647 → IV v2_1 0 3 → th_H D cT T (kd q) H → va_S (th_A T [36, 37]) s.heap H locs → lv_has ls 5 [(0, .ref a0), (1, .int v2_1)] → W p l e (rmk 1 25) s m [.ref a0].toArray below meth c H locs 0 0 (MQ below (th_Q D cT T (kd q) (th_R T none) [36, 37]) [.ref a0].toArray s 0 0 (th_A T [36, 37])) (F0 m 125 ls [.int w125_2, .int v2_1, .ref w125_0]) := by
        intro H locs ls w125_0 w125_2 tw125_0 iw125_2 f125_v2_1 hH hS hl
        refine th_iast S hK hH hS ⟨37, by decide, tw125_0⟩ tw125_0 kd_37 (th_in (hi := 3) f125_v2_1 (by decide)) (th_iv iw125_2) dX5_boundUse_125 (fun H locs hH hS hq1 => ?_)
        exact J126 H locs ls f125_v2_1 hH hS (lv_sub hl [0, 1] rfl)
      have J125_s2_1000 : ∀ (H : Heap) (locs : List Loc) (ls : Array Slot) (w125_0 : Nat), T w125_0 = some 37 → IV v2_1 0 3 → th_H D cT T (kd q) H → va_S (th_A T [36, 37]) s.heap H locs → lv_has ls 5 [(0, .ref a0), (1, .int v2_1)] → W p l e (rmk 1 25) s m [.ref a0].toArray below meth c H locs 0 0 (MQ below (th_Q D cT T (kd q) (th_R T none) [36, 37]) [.ref a0].toArray s 0 0 (th_A T [36, 37])) (F0 m 125 ls [.int 1000, .int v2_1, .ref w125_0]) := by
        intro H locs ls w125_0 tw125_0 f125_v2_1 hH hS hl
        refine th_iast S hK hH hS ⟨37, by decide, tw125_0⟩ tw125_0 kd_37 (th_in (hi := 3) f125_v2_1 (by decide)) (th_iv (iv_top _)) dX5_boundUse_125 (fun H locs hH hS hq1 => ?_)
        exact J126 H locs ls f125_v2_1 hH hS (lv_sub hl [0, 1] rfl)
      have J90 : ∀ (H : Heap) (locs : List Loc) (ls : Array Slot) (v90_2 : Int32) (v90_3 : Int32) (w90_0 : Nat) (w90_2 : Int32), IV v90_2 1 2147483647 → IV v90_3 (-2147483648) 2147483647 → T w90_0 = some 36 → IV w90_2 (-2147483648) 2147483647 → IV v2_1 0 3 → th_H D cT T (kd q) H → va_S (th_A T [36, 37]) s.heap H locs → lv_has ls 5 [(0, .ref a0), (1, .int v2_1), (2, .int v90_2), (3, .int v90_3)] → W p l e (rmk 1 25) s m [.ref a0].toArray below meth c H locs 0 0 (MQ below (th_Q D cT T (kd q) (th_R T none) [36, 37]) [.ref a0].toArray s 0 0 (th_A T [36, 37])) (F0 m 90 ls [.int w90_2, .int v2_1, .ref w90_0]) := by
        intro H locs ls v90_2 v90_3 w90_0 w90_2 iv90_2 iv90_3 tw90_0 iw90_2 f90_v2_1 hH hS hl
        refine th_iast S hK hH hS ⟨36, by decide, tw90_0⟩ tw90_0 kd_36 (th_in (hi := 3) f90_v2_1 (by decide)) (th_iv iw90_2) dX5_boundUse_90 (fun H locs hH hS hq1 => ?_)
        refine lv_iload_n hx hb dX5_boundUse_91 rfl (lv_at hl 3 rfl) ?_
        refine lv_if_ge (tgt := 105) hx hb dX5_boundUse_92 (by decide) (fun c2 => ?_) (fun c2 => ?_)
        · skip
          have ir3 : IV v90_3 0 2147483647 := iv_vR (iv_c (by decide) : IV 0 0 0) iv90_3 (iv_le c2) (by decide)
          refine lv_aload_n hx hb dX5_boundUse_105 rfl (lv_at hl 0 rfl) ?_
          refine th_get S hK hH inG5 t0 kd_7 rfl 6 (by decide) gm_435 rfl rfl dX5_boundUse_106 (fun v4 hv4 fv4 => ?_)
          obtain ⟨rf5, rfl, trf5⟩ := th_V.ref hv4
          refine lv_iload_n hx hb dX5_boundUse_109 rfl (lv_at hl 1 rfl) ?_
          refine lv_iload_n hx hb dX5_boundUse_110 rfl (lv_at hl 2 rfl) ?_
          refine lv_if_gt (tgt := 120) hx hb dX5_boundUse_111 (by decide) (fun c6 => ?_) (fun c6 => ?_)
          · skip
            refine lv_iload_n hx hb dX5_boundUse_120 rfl (lv_at hl 3 rfl) ?_
            refine lv_iload_n hx hb dX5_boundUse_121 rfl (lv_at hl 2 rfl) ?_
            refine lv_idiv hx hb dX5_boundUse_122 (iv_n0 iv90_2 (by decide)) ?_
            refine lv_topi (fun x7 ex7 => ?_)
            have ix7 : IV x7 0 2147483647 := by rw [ex7]; exact iv_div (h1 := 2147483647) ir3 iv90_2 (by decide)
            refine lv_iconst (v := 1) hx hb dX5_boundUse_123 (by decide) ?_
            refine lv_iadd hx hb dX5_boundUse_124 ?_
            refine lv_topi (fun x8 ex8 => ?_)
            have ix8 := iv_top x8
            exact J125 H locs ls rf5 x8 trf5 ix8 f90_v2_1 hH hS (lv_sub hl [0, 1] rfl)
          · skip
            exfalso
            have z1 := iv_nlt c6
            have z2 := ((iv_c (by decide) : IV 0 0 0)).1
            have z3 := ((iv_c (by decide) : IV 0 0 0)).2
            have z4 := (iv90_2).1
            have z5 := (iv90_2).2
            omega
        · skip
          have ir9 : IV v90_3 (-2147483648) (-1) := iv_uL iv90_3 (iv_c (by decide) : IV 0 0 0) (iv_nle c2) (by decide)
          refine lv_aload_n hx hb dX5_boundUse_95 rfl (lv_at hl 0 rfl) ?_
          refine th_get S hK hH inG5 t0 kd_7 rfl 6 (by decide) gm_435 rfl rfl dX5_boundUse_96 (fun v10 hv10 fv10 => ?_)
          obtain ⟨rf11, rfl, trf11⟩ := th_V.ref hv10
          refine lv_iload_n hx hb dX5_boundUse_99 rfl (lv_at hl 1 rfl) ?_
          refine lv_iconst (v := 0) hx hb dX5_boundUse_100 (by decide) ?_
          refine th_iast S hK hH hS ⟨37, by decide, trf11⟩ trf11 kd_37 (th_in (hi := 3) f90_v2_1 (by decide)) (th_iv (iv_top _)) dX5_boundUse_101 (fun H locs hH hS hq1 => ?_)
          have f12 := fv10.kept (hq1 _ (th_ne t0 trf11 (by decide)))
          refine lv_goto (tgt := 126) hx hb dX5_boundUse_102 (by decide) ?_
          exact J126 H locs ls f90_v2_1 hH hS (lv_sub hl [0, 1] rfl)
      have J90_s2_0 : ∀ (H : Heap) (locs : List Loc) (ls : Array Slot) (v90_2 : Int32) (v90_3 : Int32) (w90_0 : Nat), IV v90_2 (-2147483648) 2147483647 → IV v90_3 (-2147483648) 2147483647 → T w90_0 = some 36 → IV v2_1 0 3 → th_H D cT T (kd q) H → va_S (th_A T [36, 37]) s.heap H locs → lv_has ls 5 [(0, .ref a0), (1, .int v2_1), (2, .int v90_2), (3, .int v90_3)] → W p l e (rmk 1 25) s m [.ref a0].toArray below meth c H locs 0 0 (MQ below (th_Q D cT T (kd q) (th_R T none) [36, 37]) [.ref a0].toArray s 0 0 (th_A T [36, 37])) (F0 m 90 ls [.int 0, .int v2_1, .ref w90_0]) := by
        intro H locs ls v90_2 v90_3 w90_0 iv90_2 iv90_3 tw90_0 f90_v2_1 hH hS hl
        refine th_iast S hK hH hS ⟨36, by decide, tw90_0⟩ tw90_0 kd_36 (th_in (hi := 3) f90_v2_1 (by decide)) (th_iv (iv_top _)) dX5_boundUse_90 (fun H locs hH hS hq1 => ?_)
        refine lv_iload_n hx hb dX5_boundUse_91 rfl (lv_at hl 3 rfl) ?_
        refine lv_if_ge (tgt := 105) hx hb dX5_boundUse_92 (by decide) (fun c13 => ?_) (fun c13 => ?_)
        · skip
          have ir14 : IV v90_3 0 2147483647 := iv_vR (iv_c (by decide) : IV 0 0 0) iv90_3 (iv_le c13) (by decide)
          refine lv_aload_n hx hb dX5_boundUse_105 rfl (lv_at hl 0 rfl) ?_
          refine th_get S hK hH inG5 t0 kd_7 rfl 6 (by decide) gm_435 rfl rfl dX5_boundUse_106 (fun v15 hv15 fv15 => ?_)
          obtain ⟨rf16, rfl, trf16⟩ := th_V.ref hv15
          refine lv_iload_n hx hb dX5_boundUse_109 rfl (lv_at hl 1 rfl) ?_
          refine lv_iload_n hx hb dX5_boundUse_110 rfl (lv_at hl 2 rfl) ?_
          refine lv_if_gt (tgt := 120) hx hb dX5_boundUse_111 (by decide) (fun c17 => ?_) (fun c17 => ?_)
          · skip
            have ir18 : IV v90_2 1 2147483647 := iv_uR (iv_c (by decide) : IV 0 0 0) iv90_2 (iv_lt c17) (by decide)
            refine lv_iload_n hx hb dX5_boundUse_120 rfl (lv_at hl 3 rfl) ?_
            refine lv_iload_n hx hb dX5_boundUse_121 rfl (lv_at hl 2 rfl) ?_
            refine lv_idiv hx hb dX5_boundUse_122 (iv_n0 ir18 (by decide)) ?_
            refine lv_topi (fun x19 ex19 => ?_)
            have ix19 : IV x19 0 2147483647 := by rw [ex19]; exact iv_div (h1 := 2147483647) ir14 ir18 (by decide)
            refine lv_iconst (v := 1) hx hb dX5_boundUse_123 (by decide) ?_
            refine lv_iadd hx hb dX5_boundUse_124 ?_
            refine lv_topi (fun x20 ex20 => ?_)
            have ix20 := iv_top x20
            exact J125 H locs ls rf16 x20 trf16 ix20 f90_v2_1 hH hS (lv_sub hl [0, 1] rfl)
          · skip
            have ir21 : IV v90_2 (-2147483648) 0 := iv_vL iv90_2 (iv_c (by decide) : IV 0 0 0) (iv_nlt c17) (by decide)
            refine lv_sipush (v := 1000) hx hb dX5_boundUse_114 (by decide) ?_
            refine lv_goto (tgt := 125) hx hb dX5_boundUse_117 (by decide) ?_
            exact J125_s2_1000 H locs ls rf16 trf16 f90_v2_1 hH hS (lv_sub hl [0, 1] rfl)
        · skip
          have ir22 : IV v90_3 (-2147483648) (-1) := iv_uL iv90_3 (iv_c (by decide) : IV 0 0 0) (iv_nle c13) (by decide)
          refine lv_aload_n hx hb dX5_boundUse_95 rfl (lv_at hl 0 rfl) ?_
          refine th_get S hK hH inG5 t0 kd_7 rfl 6 (by decide) gm_435 rfl rfl dX5_boundUse_96 (fun v23 hv23 fv23 => ?_)
          obtain ⟨rf24, rfl, trf24⟩ := th_V.ref hv23
          refine lv_iload_n hx hb dX5_boundUse_99 rfl (lv_at hl 1 rfl) ?_
          refine lv_iconst (v := 0) hx hb dX5_boundUse_100 (by decide) ?_
          refine th_iast S hK hH hS ⟨37, by decide, trf24⟩ trf24 kd_37 (th_in (hi := 3) f90_v2_1 (by decide)) (th_iv (iv_top _)) dX5_boundUse_101 (fun H locs hH hS hq1 => ?_)
          have f25 := fv23.kept (hq1 _ (th_ne t0 trf24 (by decide)))
          refine lv_goto (tgt := 126) hx hb dX5_boundUse_102 (by decide) ?_
          exact J126 H locs ls f90_v2_1 hH hS (lv_sub hl [0, 1] rfl)
      have J78 : ∀ (H : Heap) (locs : List Loc) (ls : Array Slot) (v78_2 : Int32) (v78_3 : Int32) (w78_0 : Nat), IV v78_2 (-2147483648) 2147483647 → IV v78_3 (-2147483648) 2147483647 → T w78_0 = some 36 → IV v2_1 0 3 → th_H D cT T (kd q) H → va_S (th_A T [36, 37]) s.heap H locs → lv_has ls 5 [(0, .ref a0), (1, .int v2_1), (2, .int v78_2), (3, .int v78_3)] → W p l e (rmk 1 25) s m [.ref a0].toArray below meth c H locs 0 0 (MQ below (th_Q D cT T (kd q) (th_R T none) [36, 37]) [.ref a0].toArray s 0 0 (th_A T [36, 37])) (F0 m 78 ls [.int v2_1, .ref w78_0]) := by
        intro H locs ls v78_2 v78_3 w78_0 iv78_2 iv78_3 tw78_0 f78_v2_1 hH hS hl
        refine lv_iconst (v := 0) hx hb dX5_boundUse_78 (by decide) ?_
        refine lv_goto (tgt := 90) hx hb dX5_boundUse_79 (by decide) ?_
        exact J90_s2_0 H locs ls v78_2 v78_3 w78_0 iv78_2 iv78_3 tw78_0 f78_v2_1 hH hS (lv_sub hl [0, 1, 2, 3] rfl)
      refine lv_iload_n hx hb dX5_boundUse_2 rfl (lv_at hl 1 rfl) ?_
      refine lv_aload_n hx hb dX5_boundUse_3 rfl (lv_at hl 0 rfl) ?_
      refine th_get S hK hH inG5 t0 kd_7 rfl 0 (by decide) gm_427 rfl rfl dX5_boundUse_4 (fun v26 hv26 fv26 => ?_)
      obtain ⟨rf27, rfl, trf27⟩ := th_V.ref hv26
      refine th_get S hK hH inG0 trf27 kd_4 rfl 0 (by decide) gm_370 rfl rfl dX5_boundUse_7 (fun v28 hv28 fv28 => ?_)
      obtain ⟨rf29, rfl, trf29⟩ := th_V.ref hv28
      refine th_get S hK hH inG4 trf29 kd_3 rfl 12 (by decide) gm_281 rfl rfl dX5_boundUse_10 (fun v30 hv30 fv30 => ?_)
      obtain ⟨x31, rfl, ix31⟩ := th_V.int hv30
      refine lv_icmp_ge (tgt := 132) hx hb dX5_boundUse_13 (by decide) (fun c32 => ?_) (fun c32 => ?_)
      · skip
        exact th_vret S hK hH hS hr hlocks rfl dX5_boundUse_132
      · skip
        have ir33 : IV v2_1 0 3 := iv_uL iv2_1 ix31 (iv_nle c32) (by decide)
        have ir34 : IV x31 1 4 := iv_uR iv2_1 ix31 (iv_nle c32) (by decide)
        refine lv_aload_n hx hb dX5_boundUse_16 rfl (lv_at hl 0 rfl) ?_
        refine th_getK S hK fv26 inG5 rfl (by decide) gm_427 rfl dX5_boundUse_17 ?_
        refine th_getK S hK fv28 inG0 rfl (by decide) gm_370 rfl dX5_boundUse_20 ?_
        refine th_get S hK hH inG4 trf29 kd_3 rfl 8 (by decide) gm_264 rfl rfl dX5_boundUse_23 (fun v37 hv37 fv37 => ?_)
        obtain ⟨rf38, rfl, trf38⟩ := th_V.ref hv37
        refine lv_iload_n hx hb dX5_boundUse_26 rfl (lv_at hl 1 rfl) ?_
        refine lv_iconst (v := 3) hx hb dX5_boundUse_27 (by decide) ?_
        refine lv_imul hx hb dX5_boundUse_28 ?_
        refine lv_topi (fun x39 ex39 => ?_)
        have ix39 : IV x39 0 9 := by rw [ex39]; exact iv_mul ir33 (iv_c (by decide) : IV 3 3 3) (by decide) (by decide)
        refine lv_aload_n hx hb dX5_boundUse_29 rfl (lv_at hl 0 rfl) ?_
        refine th_get S hK hH inG5 t0 kd_7 rfl 9 (by decide) gm_438 rfl rfl dX5_boundUse_30 (fun v40 hv40 fv40 => ?_)
        obtain ⟨x41, rfl, ix41⟩ := th_V.int hv40
        refine lv_iadd hx hb dX5_boundUse_33 ?_
        refine lv_topi (fun x42 ex42 => ?_)
        have ix42 : IV x42 0 11 := by rw [ex42]; exact iv_add ix39 ix41 (by decide)
        refine th_iald S hK hH trf38 kd_28 (th_in (hi := 11) ix42 (by decide)) dX5_boundUse_34 (fun v43 hv43 => ?_)
        obtain ⟨x44, rfl, ix44⟩ := th_V.int hv43
        refine lv_istore_n (lv' := [(2, .int x44), (0, .ref a0), (1, .int v2_1)]) hx hb dX5_boundUse_35 rfl hl (by decide) rfl (fun ls hl => ?_)
        refine lv_aload_n hx hb dX5_boundUse_36 rfl (lv_at hl 1 rfl) ?_
        refine th_get S hK hH inG5 t0 kd_7 rfl 4 (by decide) gm_433 rfl rfl dX5_boundUse_37 (fun v45 hv45 fv45 => ?_)
        obtain ⟨rf46, rfl, trf46⟩ := th_V.ref hv45
        refine lv_iload_n hx hb dX5_boundUse_40 rfl (lv_at hl 2 rfl) ?_
        refine th_iald S hK hH trf46 kd_35 (th_in (hi := 3) ir33 (by decide)) dX5_boundUse_41 (fun v47 hv47 => ?_)
        obtain ⟨x48, rfl, ix48⟩ := th_V.int hv47
        refine lv_aload_n hx hb dX5_boundUse_42 rfl (lv_at hl 1 rfl) ?_
        refine th_getK S hK fv26 inG5 rfl (by decide) gm_427 rfl dX5_boundUse_43 ?_
        refine lv_aload_n hx hb dX5_boundUse_46 rfl (lv_at hl 1 rfl) ?_
        refine th_get S hK hH inG5 t0 kd_7 rfl 3 (by decide) gm_432 rfl rfl dX5_boundUse_47 (fun v50 hv50 fv50 => ?_)
        obtain ⟨rf51, rfl, trf51⟩ := th_V.ref hv50
        refine lv_iconst (v := 0) hx hb dX5_boundUse_50 (by decide) ?_
        refine th_aald S hK hH trf51 kd_32 (th_in (hi := 0) (iv_c (by decide) : IV 0 0 0) (by decide)) dX5_boundUse_51 (fun v52 hv52 => ?_)
        obtain ⟨rf53, rfl, trf53⟩ := th_V.ref hv52
        refine lv_iload_n hx hb dX5_boundUse_52 rfl (lv_at hl 2 rfl) ?_
        refine th_callVi (n := 2) (As := [.ref rf53, .int v2_1]) S hK hH hS (th_A.sub (by decide)) (m_X0_givenTo l D cT T q hq rf27 trf27 rf53 trf53 (v2_1) ir33) gm_858 gm_1038 gm_856 gm_857 gm_119 (by decide +kernel) ⟨rfl, rfl, Nat.le_of_ble_eq_true rfl, Nat.le_of_ble_eq_true rfl⟩ trf27 kd_4 rfl rfl hl.1 rfl (Nat.le_of_ble_eq_true rfl) dX5_boundUse_53 ⟨Nat.zero_le _, Nat.zero_le _⟩ (fun x54 H locs ix54 hH hS hF1 => ?_)
        have f55 := fv26.kept (hF1 _ fv26.lt (th_off t0 (by decide)))
        have f56 := fv28.kept (hF1 _ fv28.lt (th_off trf27 (by decide)))
        refine lv_isub hx hb dX5_boundUse_56 ?_
        refine lv_topi (fun x57 ex57 => ?_)
        have ix57 := iv_top x57
        refine lv_istore_n (lv' := [(3, .int x57), (2, .int x44), (0, .ref a0), (1, .int v2_1)]) hx hb dX5_boundUse_57 rfl hl (by decide) rfl (fun ls hl => ?_)
        refine lv_iload_n hx hb dX5_boundUse_58 rfl (lv_at hl 0 rfl) ?_
        refine lv_bipush (v := 60) hx hb dX5_boundUse_59 (by decide) ?_
        refine lv_iadd hx hb dX5_boundUse_61 ?_
        refine lv_topi (fun x58 ex58 => ?_)
        have ix58 := iv_top x58
        refine lv_istore (lv' := [(4, .int x58), (3, .int x57), (2, .int x44), (0, .ref a0), (1, .int v2_1)]) hx hb dX5_boundUse_62 hl (by decide) rfl (fun ls hl => ?_)
        refine lv_aload_n hx hb dX5_boundUse_64 rfl (lv_at hl 3 rfl) ?_
        refine th_get S hK hH inG5 t0 kd_7 rfl 5 (by decide) gm_434 rfl rfl dX5_boundUse_65 (fun v59 hv59 fv59 => ?_)
        obtain ⟨rf60, rfl, trf60⟩ := th_V.ref hv59
        refine lv_iload_n hx hb dX5_boundUse_68 rfl (lv_at hl 4 rfl) ?_
        refine lv_iload_n hx hb dX5_boundUse_69 rfl (lv_at hl 2 rfl) ?_
        refine lv_if_le (tgt := 78) hx hb dX5_boundUse_70 (by decide) (fun c61 => ?_) (fun c61 => ?_)
        · skip
          have ir62 : IV x44 (-2147483648) 0 := iv_vL ix44 (iv_c (by decide) : IV 0 0 0) (iv_le c61) (by decide)
          exact J78 H locs ls x44 x57 rf60 (iv_top _) ix57 trf60 ir33 hH hS (lv_sub hl [3, 4, 2, 1] rfl)
        · skip
          have ir63 : IV x44 1 2147483647 := iv_uR (iv_c (by decide) : IV 0 0 0) ix44 (iv_nle c61) (by decide)
          refine lv_iload hx hb dX5_boundUse_73 (lv_at hl 0 rfl) ?_
          refine lv_if_gt (tgt := 82) hx hb dX5_boundUse_75 (by decide) (fun c64 => ?_) (fun c64 => ?_)
          · skip
            have ir65 : IV x58 1 2147483647 := iv_uR (iv_c (by decide) : IV 0 0 0) ix58 (iv_lt c64) (by decide)
            refine lv_iload hx hb dX5_boundUse_82 (lv_at hl 0 rfl) ?_
            refine lv_iload_n hx hb dX5_boundUse_84 rfl (lv_at hl 2 rfl) ?_
            refine lv_iadd hx hb dX5_boundUse_85 ?_
            refine lv_topi (fun x66 ex66 => ?_)
            have ix66 := iv_top x66
            refine lv_iconst (v := 1) hx hb dX5_boundUse_86 (by decide) ?_
            refine lv_isub hx hb dX5_boundUse_87 ?_
            refine lv_topi (fun x67 ex67 => ?_)
            have ix67 := iv_top x67
            refine lv_iload_n hx hb dX5_boundUse_88 rfl (lv_at hl 2 rfl) ?_
            refine lv_idiv hx hb dX5_boundUse_89 (iv_n0 ir63 (by decide)) ?_
            refine lv_topi (fun x68 ex68 => ?_)
            have ix68 := iv_top x68
            exact J90 H locs ls x44 x57 rf60 x68 ir63 ix57 trf60 ix68 ir33 hH hS (lv_sub hl [3, 4, 2, 1] rfl)
          · skip
            have ir69 : IV x58 (-2147483648) 0 := iv_vL ix58 (iv_c (by decide) : IV 0 0 0) (iv_nlt c64) (by decide)
            exact J78 H locs ls x44 x57 rf60 (iv_top _) ix57 trf60 ir33 hH hS (lv_sub hl [3, 4, 2, 1] rfl)
  have J0 : ∀ (H : Heap) (locs : List Loc) (ls : Array Slot), th_H D cT T (kd q) H → va_S (th_A T [36, 37]) s.heap H locs → lv_has ls 5 [(0, .ref a0)] → W p l e (rmk 1 25) s m [.ref a0].toArray below meth c H locs 0 0 (MQ below (th_Q D cT T (kd q) (th_R T none) [36, 37]) [.ref a0].toArray s 0 0 (th_A T [36, 37])) (F0 m 0 ls []) := by
    intro H locs ls hH hS hl
    refine lv_iconst (v := 0) hx hb dX5_boundUse_0 (by decide) ?_
    refine lv_istore_n (lv' := [(1, .int 0), (0, .ref a0)]) hx hb dX5_boundUse_1 rfl hl (by decide) rfl (fun ls hl => ?_)
    exact J2 ((4 + 1 - Int32.toInt 0).toNat + 1) H locs ls 0 (iv_w (iv_c (by decide) : IV 0 0 0) (by decide)) hH hS (lv_sub hl [1, 0] rfl) (Nat.lt_succ_self _)
  exact J0 s.heap [] ls hH va_S.rf hl

set_option maxRecDepth 100000 in
theorem m_X5_canMend (l : Launch) (D : va_G) (cT : Nat → ClassId) (T : Nat → Option Nat) (q : Nat → Int) (hq : qok q) (a0 : Nat) (t0 : T a0 = some 7) (y1 : Int32) (j1 : IV y1 (-2147483648) 2147483647) (y2 : Int32) (j2 : IV y2 0 4) (y3 : Int32) (j3 : IV y3 (-2147483648) 2147483647) : th_Met l D cT T (kd q) yX5_canMend cX5_canMend 7 (some .boolean) (rmk 1 20) [.ref a0, .int y1, .int y2, .int y3] (th_R T (some (.inl (0, 1)))) [] := by
  refine th_start (by decide) (Nat.le_of_ble_eq_true rfl) ?_
  intro p e s m below meth c ls S hK hH hr hlocks hnm hl
  have hx := S.1
  have hb := S.2.1
  have hl : lv_has ls 7 [(0, .ref a0), (1, .int y1), (2, .int y2), (3, .int y3)] := hl
  have J85_s0_0 : ∀ (H : Heap) (locs : List Loc) (ls : Array Slot), th_H D cT T (kd q) H → va_S (th_A T []) s.heap H locs → lv_has ls 7 [] → W p l e (rmk 1 20) s m [.ref a0, .int y1, .int y2, .int y3].toArray below meth c H locs 0 0 (MQ below (th_Q D cT T (kd q) (th_R T (some (.inl (0, 1)))) []) [.ref a0, .int y1, .int y2, .int y3].toArray s 0 0 (th_A T [])) (F0 m 85 ls [.int 0]) := by
    intro H locs ls hH hS hl
    exact th_zret S hK hH hS hr hlocks (iv_w (iv_c (by decide) : IV 0 0 0) (by decide)) (th_R.i (iv_w (iv_c (by decide) : IV 0 0 0) (by decide))) dX5_canMend_85
  have J85_s0_1 : ∀ (H : Heap) (locs : List Loc) (ls : Array Slot), th_H D cT T (kd q) H → va_S (th_A T []) s.heap H locs → lv_has ls 7 [] → W p l e (rmk 1 20) s m [.ref a0, .int y1, .int y2, .int y3].toArray below meth c H locs 0 0 (MQ below (th_Q D cT T (kd q) (th_R T (some (.inl (0, 1)))) []) [.ref a0, .int y1, .int y2, .int y3].toArray s 0 0 (th_A T [])) (F0 m 85 ls [.int 1]) := by
    intro H locs ls hH hS hl
    exact th_zret S hK hH hS hr hlocks (iv_w (iv_c (by decide) : IV 1 1 1) (by decide)) (th_R.i (iv_w (iv_c (by decide) : IV 1 1 1) (by decide))) dX5_canMend_85
  have J84 : ∀ (H : Heap) (locs : List Loc) (ls : Array Slot), th_H D cT T (kd q) H → va_S (th_A T []) s.heap H locs → lv_has ls 7 [] → W p l e (rmk 1 20) s m [.ref a0, .int y1, .int y2, .int y3].toArray below meth c H locs 0 0 (MQ below (th_Q D cT T (kd q) (th_R T (some (.inl (0, 1)))) []) [.ref a0, .int y1, .int y2, .int y3].toArray s 0 0 (th_A T [])) (F0 m 84 ls []) := by
    intro H locs ls hH hS hl
    refine lv_iconst (v := 0) hx hb dX5_canMend_84 (by decide) ?_
    exact J85_s0_0 H locs ls  hH hS (lv_sub hl [] rfl)
  have J9 : ∀ (n : Nat) (H : Heap) (locs : List Loc) (ls : Array Slot) (v9_4 : Int32) (v9_5 : Int32) (v9_6 : Int32), IV v9_4 (-2147483648) 2147483647 → IV v9_5 (-2147483648) 2147483647 → IV v9_6 0 4 → th_H D cT T (kd q) H → va_S (th_A T []) s.heap H locs → lv_has ls 7 [(0, .ref a0), (1, .int y1), (3, .int y3), (4, .int v9_4), (5, .int v9_5), (6, .int v9_6)] → (4 + 1 - v9_6.toInt).toNat < n → W p l e (rmk 1 20) s m [.ref a0, .int y1, .int y2, .int y3].toArray below meth c H locs 0 0 (MQ below (th_Q D cT T (kd q) (th_R T (some (.inl (0, 1)))) []) [.ref a0, .int y1, .int y2, .int y3].toArray s 0 0 (th_A T [])) (F0 m 9 ls []) := by
    intro n
    induction n with
    | zero => intro H locs ls v9_4 v9_5 v9_6 iv9_4 iv9_5 iv9_6 hH hS hl hn; exact absurd hn (Nat.not_lt_zero _)
    | succ n ih9 =>
      intro H locs ls v9_4 v9_5 v9_6 iv9_4 iv9_5 iv9_6 hH hS hl hn9
      have J56 : ∀ (H : Heap) (locs : List Loc) (ls : Array Slot) (v56_4 : Int32) (v56_5 : Int32), IV v56_4 (-2147483648) 2147483647 → IV v56_5 (-2147483648) 2147483647 → IV v9_6 0 3 → th_H D cT T (kd q) H → va_S (th_A T []) s.heap H locs → lv_has ls 7 [(0, .ref a0), (1, .int y1), (3, .int y3), (4, .int v56_4), (5, .int v56_5), (6, .int v9_6)] → W p l e (rmk 1 20) s m [.ref a0, .int y1, .int y2, .int y3].toArray below meth c H locs 0 0 (MQ below (th_Q D cT T (kd q) (th_R T (some (.inl (0, 1)))) []) [.ref a0, .int y1, .int y2, .int y3].toArray s 0 0 (th_A T [])) (F0 m 56 ls []) := by
        intro H locs ls v56_4 v56_5 iv56_4 iv56_5 f56_v9_6 hH hS hl
        refine th_iinc S dX5_canMend_56 hl (k := 5) rfl (by decide) f56_v9_6 (by decide) (fun x1 ls ex1 ix1 hl => ?_)
        have hl : lv_has ls 7 [(6, .int x1), (0, .ref a0), (1, .int y1), (3, .int y3), (4, .int v56_4), (5, .int v56_5)] := hl
        have ix1 : IV x1 1 4 := ix1
        refine lv_goto (tgt := 9) hx hb dX5_canMend_59 (by decide) ?_
        exact ih9 H locs ls v56_4 v56_5 x1 iv56_4 iv56_5 (iv_w ix1 (by decide)) hH hS (lv_sub hl [1, 2, 3, 4, 5, 0] rfl) (th_up iv9_6 ex1 (by decide) hn9)
      refine lv_iload hx hb dX5_canMend_9 (lv_at hl 5 rfl) ?_
      refine lv_aload_n hx hb dX5_canMend_11 rfl (lv_at hl 0 rfl) ?_
      refine th_get S hK hH inG5 t0 kd_7 rfl 0 (by decide) gm_427 rfl rfl dX5_canMend_12 (fun v2 hv2 fv2 => ?_)
      obtain ⟨rf3, rfl, trf3⟩ := th_V.ref hv2
      refine th_get S hK hH inG0 trf3 kd_4 rfl 0 (by decide) gm_370 rfl rfl dX5_canMend_15 (fun v4 hv4 fv4 => ?_)
      obtain ⟨rf5, rfl, trf5⟩ := th_V.ref hv4
      refine th_get S hK hH inG4 trf5 kd_3 rfl 12 (by decide) gm_281 rfl rfl dX5_canMend_18 (fun v6 hv6 fv6 => ?_)
      obtain ⟨x7, rfl, ix7⟩ := th_V.int hv6
      refine lv_icmp_ge (tgt := 62) hx hb dX5_canMend_21 (by decide) (fun c8 => ?_) (fun c8 => ?_)
      · skip
        refine lv_iload_n hx hb dX5_canMend_62 rfl (lv_at hl 1 rfl) ?_
        refine lv_iload hx hb dX5_canMend_63 (lv_at hl 3 rfl) ?_
        refine lv_iconst (v := (-1)) hx hb dX5_canMend_65 (by decide) ?_
        refine lv_ixor hx hb dX5_canMend_66 ?_
        refine lv_topi (fun x9 ex9 => ?_)
        have ix9 := iv_top x9
        refine lv_iand hx hb dX5_canMend_67 ?_
        refine lv_topi (fun x10 ex10 => ?_)
        have ix10 := iv_top x10
        refine lv_if_ne (tgt := 84) hx hb dX5_canMend_68 (by decide) (fun c11 => ?_) (fun c11 => ?_)
        · skip
          exact J84 H locs ls  hH hS (lv_sub hl [] rfl)
        · skip
          have ir12 : IV x10 0 0 := iv_eL c11 (iv_c (by decide) : IV 0 0 0)
          refine lv_iload_n hx hb dX5_canMend_71 rfl (lv_at hl 1 rfl) ?_
          refine th_callSi (n := 1) (As := [.int y1]) S hK hH hS (th_A.sub (by decide)) (m_J6_bitCount_0f7a4 l D cT T q hq (y1) j1) gm_715 gm_1049 gm_714 gm_132 (by decide +kernel) ⟨rfl, rfl, Nat.le_of_ble_eq_true rfl, Nat.le_of_ble_eq_true rfl⟩ rfl hl.1 rfl (Nat.le_of_ble_eq_true rfl) dX5_canMend_72 ⟨Nat.zero_le _, Nat.zero_le _⟩ (fun x13 H locs ix13 hH hS hF1 => ?_)
          have f14 := fv2.kept (hF1 _ fv2.lt (th_off t0 (by decide)))
          have f15 := fv4.kept (hF1 _ fv4.lt (th_off trf3 (by decide)))
          refine lv_iload hx hb dX5_canMend_75 (lv_at hl 4 rfl) ?_
          refine lv_icmp_gt (tgt := 84) hx hb dX5_canMend_77 (by decide) (fun c16 => ?_) (fun c16 => ?_)
          · skip
            have ir17 : IV v9_5 (-2147483648) 62 := iv_uL iv9_5 ix13 (iv_lt c16) (by decide)
            exact J84 H locs ls  hH hS (lv_sub hl [] rfl)
          · skip
            have ir18 : IV v9_5 0 2147483647 := iv_vR ix13 iv9_5 (iv_nlt c16) (by decide)
            refine lv_iconst (v := 1) hx hb dX5_canMend_80 (by decide) ?_
            refine lv_goto (tgt := 85) hx hb dX5_canMend_81 (by decide) ?_
            exact J85_s0_1 H locs ls  hH hS (lv_sub hl [] rfl)
      · skip
        have ir19 : IV v9_6 0 3 := iv_uL iv9_6 ix7 (iv_nle c8) (by decide)
        have ir20 : IV x7 1 4 := iv_uR iv9_6 ix7 (iv_nle c8) (by decide)
        refine lv_aload_n hx hb dX5_canMend_24 rfl (lv_at hl 0 rfl) ?_
        refine th_get S hK hH inG5 t0 kd_7 rfl 6 (by decide) gm_435 rfl rfl dX5_canMend_25 (fun v21 hv21 fv21 => ?_)
        obtain ⟨rf22, rfl, trf22⟩ := th_V.ref hv21
        refine lv_iload hx hb dX5_canMend_28 (lv_at hl 5 rfl) ?_
        refine th_iald S hK hH trf22 kd_37 (th_in (hi := 3) ir19 (by decide)) dX5_canMend_30 (fun v23 hv23 => ?_)
        obtain ⟨x24, rfl, ix24⟩ := th_V.int hv23
        refine lv_iload_n hx hb dX5_canMend_31 rfl (lv_at hl 2 rfl) ?_
        refine lv_icmp_gt (tgt := 56) hx hb dX5_canMend_32 (by decide) (fun c25 => ?_) (fun c25 => ?_)
        · skip
          have ir26 : IV y3 (-2147483648) 2147483646 := iv_uL j3 ix24 (iv_lt c25) (by decide)
          have ir27 : IV x24 (-2147483647) 2147483647 := iv_uR j3 ix24 (iv_lt c25) (by decide)
          exact J56 H locs ls v9_4 v9_5 iv9_4 iv9_5 ir19 hH hS (lv_sub hl [0, 1, 2, 3, 4, 5] rfl)
        · skip
          refine lv_iload hx hb dX5_canMend_35 (lv_at hl 3 rfl) ?_
          refine lv_aload_n hx hb dX5_canMend_37 rfl (lv_at hl 0 rfl) ?_
          refine th_getK S hK fv2 inG5 rfl (by decide) gm_427 rfl dX5_canMend_38 ?_
          refine th_getK S hK fv4 inG0 rfl (by decide) gm_370 rfl dX5_canMend_41 ?_
          refine th_get S hK hH inG4 trf5 kd_3 rfl 6 (by decide) gm_253 rfl rfl dX5_canMend_44 (fun v30 hv30 fv30 => ?_)
          obtain ⟨rf31, rfl, trf31⟩ := th_V.ref hv30
          refine lv_iload hx hb dX5_canMend_47 (lv_at hl 5 rfl) ?_
          refine th_iald S hK hH trf31 kd_26 (th_in (hi := 3) ir19 (by decide)) dX5_canMend_49 (fun v32 hv32 => ?_)
          obtain ⟨x33, rfl, ix33⟩ := th_V.int hv32
          refine lv_ior hx hb dX5_canMend_50 ?_
          refine lv_topi (fun x34 ex34 => ?_)
          have ix34 := iv_top x34
          refine lv_istore (lv' := [(4, .int x34), (0, .ref a0), (1, .int y1), (3, .int y3), (5, .int v9_5), (6, .int v9_6)]) hx hb dX5_canMend_51 hl (by decide) rfl (fun ls hl => ?_)
          obtain ⟨x35, ex35⟩ : ∃ z : Int32, z = v9_5 + Int32.ofInt 1 := ⟨_, rfl⟩
          refine lv_iinc (v := x35) (lv' := [(5, .int x35), (4, .int x34), (0, .ref a0), (1, .int y1), (3, .int y3), (6, .int v9_6)]) hx hb dX5_canMend_53 hl (k := 4) rfl (by rw [ex35]) (by decide) rfl (fun ls hl => ?_)
          have ix35 := iv_top x35
          exact J56 H locs ls x34 x35 ix34 ix35 ir19 hH hS (lv_sub hl [2, 3, 4, 1, 0, 5] rfl)
  have J0 : ∀ (H : Heap) (locs : List Loc) (ls : Array Slot), th_H D cT T (kd q) H → va_S (th_A T []) s.heap H locs → lv_has ls 7 [(0, .ref a0), (1, .int y1), (2, .int y2), (3, .int y3)] → W p l e (rmk 1 20) s m [.ref a0, .int y1, .int y2, .int y3].toArray below meth c H locs 0 0 (MQ below (th_Q D cT T (kd q) (th_R T (some (.inl (0, 1)))) []) [.ref a0, .int y1, .int y2, .int y3].toArray s 0 0 (th_A T [])) (F0 m 0 ls []) := by
    intro H locs ls hH hS hl
    refine lv_iconst (v := 0) hx hb dX5_canMend_0 (by decide) ?_
    refine lv_istore (lv' := [(4, .int 0), (0, .ref a0), (1, .int y1), (2, .int y2), (3, .int y3)]) hx hb dX5_canMend_1 hl (by decide) rfl (fun ls hl => ?_)
    refine lv_iconst (v := 0) hx hb dX5_canMend_3 (by decide) ?_
    refine lv_istore (lv' := [(5, .int 0), (4, .int 0), (0, .ref a0), (1, .int y1), (2, .int y2), (3, .int y3)]) hx hb dX5_canMend_4 hl (by decide) rfl (fun ls hl => ?_)
    refine lv_iload_n hx hb dX5_canMend_6 rfl (lv_at hl 4 rfl) ?_
    refine lv_istore (lv' := [(6, .int y2), (5, .int 0), (4, .int 0), (0, .ref a0), (1, .int y1), (2, .int y2), (3, .int y3)]) hx hb dX5_canMend_7 hl (by decide) rfl (fun ls hl => ?_)
    exact J9 ((4 + 1 - Int32.toInt y2).toNat + 1) H locs ls 0 0 y2 (iv_top _) (iv_top _) j2 hH hS (lv_sub hl [3, 4, 6, 2, 1, 0] rfl) (Nat.lt_succ_self _)
  exact J0 s.heap [] ls hH va_S.rf hl

set_option maxRecDepth 100000 in
theorem m_X5_layWay (l : Launch) (D : va_G) (cT : Nat → ClassId) (T : Nat → Option Nat) (q : Nat → Int) (hq : qok q) (a0 : Nat) (t0 : T a0 = some 7) : th_Met l D cT T (kd q) yX5_layWay cX5_layWay 1 none (rmk 1 60) [.ref a0] (th_R T none) [7, 34] := by
  refine th_start (by decide) (Nat.le_of_ble_eq_true rfl) ?_
  intro p e s m below meth c ls S hK hH hr hlocks hnm hl
  have hx := S.1
  have hb := S.2.1
  have hl : lv_has ls 1 [(0, .ref a0)] := hl
  have J0 : ∀ (H : Heap) (locs : List Loc) (ls : Array Slot), th_H D cT T (kd q) H → va_S (th_A T [7, 34]) s.heap H locs → lv_has ls 1 [(0, .ref a0)] → W p l e (rmk 1 60) s m [.ref a0].toArray below meth c H locs 0 0 (MQ below (th_Q D cT T (kd q) (th_R T none) [7, 34]) [.ref a0].toArray s 0 0 (th_A T [7, 34])) (F0 m 0 ls []) := by
    intro H locs ls hH hS hl
    refine lv_aload_n hx hb dX5_layWay_0 rfl (lv_at hl 0 rfl) ?_
    refine lv_aload_n hx hb dX5_layWay_1 rfl (lv_at hl 0 rfl) ?_
    refine th_get S hK hH inG5 t0 kd_7 rfl 0 (by decide) gm_427 rfl rfl dX5_layWay_2 (fun v1 hv1 fv1 => ?_)
    obtain ⟨rf2, rfl, trf2⟩ := th_V.ref hv1
    refine th_get S hK hH inG0 trf2 kd_4 rfl 0 (by decide) gm_370 rfl rfl dX5_layWay_5 (fun v3 hv3 fv3 => ?_)
    obtain ⟨rf4, rfl, trf4⟩ := th_V.ref hv3
    refine th_get S hK hH inG4 trf4 kd_3 rfl 12 (by decide) gm_281 rfl rfl dX5_layWay_8 (fun v5 hv5 fv5 => ?_)
    obtain ⟨x6, rfl, ix6⟩ := th_V.int hv5
    refine th_put S hK hH hS ⟨7, by decide, t0⟩ inG5 tyX5 tyX5_ok nmX5 t0 kd_7 rfl 2 (by decide) gm_430 rfl rfl rfl rfl (th_iv (iv_top _)) (fun _ _ => trivial) (ty := .int) (by decide +kernel) rfl rfl dX5_layWay_11 (fun H locs hH hS hq1 hp1 => ?_)
    refine lv_aload_n hx hb dX5_layWay_14 rfl (lv_at hl 0 rfl) ?_
    refine th_get S hK hH inG5 t0 kd_7 rfl 7 (by decide) gm_436 rfl rfl dX5_layWay_15 (fun v7 hv7 fv7 => ?_)
    obtain ⟨rf8, rfl, trf8⟩ := th_V.ref hv7
    refine lv_iconst (v := 0) hx hb dX5_layWay_18 (by decide) ?_
    refine lv_aload_n hx hb dX5_layWay_19 rfl (lv_at hl 0 rfl) ?_
    refine th_get S hK hH inG5 t0 kd_7 rfl 1 (by decide) gm_428 rfl rfl dX5_layWay_20 (fun v9 hv9 fv9 => ?_)
    obtain ⟨rf10, rfl, trf10⟩ := th_V.ref hv9
    refine lv_iconst (v := 0) hx hb dX5_layWay_23 (by decide) ?_
    refine lv_iconst (v := 4) hx hb dX5_layWay_24 (by decide) ?_
    refine th_copy S hK hH hS ⟨34, by decide, trf10⟩ gm_1054 gm_812 gm_811 gm_133 trf8 kd_38 trf10 kd_34 (fun _ => ⟨_, rfl⟩) (fun _ _ _ h => h) (by decide) (by decide) (by decide) (by decide) (by decide) (Nat.le_of_ble_eq_true rfl) (Nat.le_of_ble_eq_true rfl) hl.1 dX5_layWay_25 (fun H locs hH hS hq1 => ?_)
    exact th_vret S hK hH hS hr hlocks rfl dX5_layWay_28
  exact J0 s.heap [] ls hH va_S.rf hl

set_option maxRecDepth 100000 in
theorem m_X5_serve (l : Launch) (D : va_G) (cT : Nat → ClassId) (T : Nat → Option Nat) (q : Nat → Int) (hq : qok q) (a0 : Nat) (t0 : T a0 = some 7) (y1 : Int32) (j1 : IV y1 0 3) (y2 : Int32) (j2 : IV y2 (-2147483648) 2147483647) : th_Met l D cT T (kd q) yX5_serve cX5_serve 4 none (rmk 4 104) [.ref a0, .int y1, .int y2] (th_R T none) [18, 19, 29, 38] := by
  refine th_start (by decide) (Nat.le_of_ble_eq_true rfl) ?_
  intro p e s m below meth c ls S hK hH hr hlocks hnm hl
  have hx := S.1
  have hb := S.2.1
  have hl : lv_has ls 4 [(0, .ref a0), (1, .int y1), (2, .int y2)] := hl
  have J0 : ∀ (H : Heap) (locs : List Loc) (ls : Array Slot), th_H D cT T (kd q) H → va_S (th_A T [18, 19, 29, 38]) s.heap H locs → lv_has ls 4 [(0, .ref a0), (1, .int y1), (2, .int y2)] → W p l e (rmk 4 104) s m [.ref a0, .int y1, .int y2].toArray below meth c H locs 0 0 (MQ below (th_Q D cT T (kd q) (th_R T none) [18, 19, 29, 38]) [.ref a0, .int y1, .int y2].toArray s 0 0 (th_A T [18, 19, 29, 38])) (F0 m 0 ls []) := by
    intro H locs ls hH hS hl
    refine lv_aload_n hx hb dX5_serve_0 rfl (lv_at hl 0 rfl) ?_
    refine th_get S hK hH inG5 t0 kd_7 rfl 7 (by decide) gm_436 rfl rfl dX5_serve_1 (fun v1 hv1 fv1 => ?_)
    obtain ⟨rf2, rfl, trf2⟩ := th_V.ref hv1
    refine lv_iload_n hx hb dX5_serve_4 rfl (lv_at hl 1 rfl) ?_
    refine lv_iload_n hx hb dX5_serve_5 rfl (lv_at hl 2 rfl) ?_
    refine th_iast S hK hH hS ⟨38, by decide, trf2⟩ trf2 kd_38 (th_in (hi := 3) j1 (by decide)) (th_iv j2) dX5_serve_6 (fun H locs hH hS hq1 => ?_)
    refine lv_aload_n hx hb dX5_serve_7 rfl (lv_at hl 0 rfl) ?_
    refine th_get S hK hH inG5 t0 kd_7 rfl 3 (by decide) gm_432 rfl rfl dX5_serve_8 (fun v3 hv3 fv3 => ?_)
    obtain ⟨rf4, rfl, trf4⟩ := th_V.ref hv3
    refine lv_iload_n hx hb dX5_serve_11 rfl (lv_at hl 1 rfl) ?_
    refine lv_iconst (v := 1) hx hb dX5_serve_12 (by decide) ?_
    refine lv_iadd hx hb dX5_serve_13 ?_
    refine lv_topi (fun x5 ex5 => ?_)
    have ix5 : IV x5 1 4 := by rw [ex5]; exact iv_add j1 (iv_c (by decide) : IV 1 1 1) (by decide)
    refine th_aald S hK hH trf4 kd_32 (th_in (hi := 4) (iv_w ix5 (by decide)) (by decide)) dX5_serve_14 (fun v6 hv6 => ?_)
    obtain ⟨rf7, rfl, trf7⟩ := th_V.ref hv6
    refine lv_astore_n (lv' := [(3, .ref rf7), (0, .ref a0), (1, .int y1), (2, .int y2)]) hx hb dX5_serve_15 rfl hl (by decide) rfl (fun ls hl => ?_)
    refine lv_aload_n hx hb dX5_serve_16 rfl (lv_at hl 0 rfl) ?_
    refine lv_aload_n hx hb dX5_serve_17 rfl (lv_at hl 1 rfl) ?_
    refine th_getK S hK fv3 inG5 rfl (by decide) gm_432 rfl dX5_serve_18 ?_
    refine lv_iload_n hx hb dX5_serve_21 rfl (lv_at hl 2 rfl) ?_
    refine th_aald S hK hH trf4 kd_32 (th_in (hi := 3) j1 (by decide)) dX5_serve_22 (fun v9 hv9 => ?_)
    obtain ⟨rf10, rfl, trf10⟩ := th_V.ref hv9
    refine th_callVv (n := 1) (As := [.ref rf10]) S hK hH hS (th_A.sub (by decide)) (m_X7_copyFrom l D cT T q hq rf7 trf7 rf10 trf10) gm_809 gm_1032 gm_807 gm_808 gm_118 (by decide +kernel) ⟨rfl, rfl, Nat.le_of_ble_eq_true rfl, Nat.le_of_ble_eq_true rfl⟩ trf7 kd_10 rfl rfl hl.1 rfl (Nat.le_of_ble_eq_true rfl) dX5_serve_23 ⟨Nat.zero_le _, Nat.zero_le _⟩ (fun H locs hH hS hF1 => ?_)
    have f11 := fv3.kept (hF1 _ fv3.lt (th_off t0 (by decide)))
    refine lv_aload_n hx hb dX5_serve_26 rfl (lv_at hl 0 rfl) ?_
    refine th_get S hK hH inG7 trf7 kd_10 rfl 0 (by decide) gm_227 rfl rfl dX5_serve_27 (fun v12 hv12 fv12 => ?_)
    obtain ⟨rf13, rfl, trf13⟩ := th_V.ref hv12
    refine lv_iconst (v := 3) hx hb dX5_serve_30 (by decide) ?_
    refine lv_iload_n hx hb dX5_serve_31 rfl (lv_at hl 2 rfl) ?_
    refine lv_iconst (v := 3) hx hb dX5_serve_32 (by decide) ?_
    refine lv_imul hx hb dX5_serve_33 ?_
    refine lv_topi (fun x14 ex14 => ?_)
    have ix14 : IV x14 0 9 := by rw [ex14]; exact iv_mul j1 (iv_c (by decide) : IV 3 3 3) (by decide) (by decide)
    refine lv_iadd hx hb dX5_serve_34 ?_
    refine lv_topi (fun x15 ex15 => ?_)
    have ix15 : IV x15 3 12 := by rw [ex15]; exact iv_add (iv_c (by decide) : IV 3 3 3) ix14 (by decide)
    refine lv_aload_n hx hb dX5_serve_35 rfl (lv_at hl 1 rfl) ?_
    refine th_get S hK hH inG5 t0 kd_7 rfl 9 (by decide) gm_438 rfl rfl dX5_serve_36 (fun v16 hv16 fv16 => ?_)
    obtain ⟨x17, rfl, ix17⟩ := th_V.int hv16
    refine lv_iadd hx hb dX5_serve_39 ?_
    refine lv_topi (fun x18 ex18 => ?_)
    have ix18 : IV x18 3 14 := by rw [ex18]; exact iv_add ix15 ix17 (by decide)
    refine lv_dup2_11 hx hb dX5_serve_40 rfl rfl ?_
    refine th_iald S hK hH trf13 kd_29 (th_in (hi := 14) (iv_w ix18 (by decide)) (by decide)) dX5_serve_41 (fun v19 hv19 => ?_)
    obtain ⟨x20, rfl, ix20⟩ := th_V.int hv19
    refine lv_iload_n hx hb dX5_serve_42 rfl (lv_at hl 3 rfl) ?_
    refine lv_iadd hx hb dX5_serve_43 ?_
    refine lv_topi (fun x21 ex21 => ?_)
    have ix21 := iv_top x21
    refine th_iast S hK hH hS ⟨29, by decide, trf13⟩ trf13 kd_29 (th_in (hi := 14) (iv_w ix18 (by decide)) (by decide)) (th_iv ix21) dX5_serve_44 (fun H locs hH hS hq1 => ?_)
    have f22 := f11.kept (hq1 _ (th_ne t0 trf13 (by decide)))
    refine lv_aload_n hx hb dX5_serve_45 rfl (lv_at hl 1 rfl) ?_
    refine th_get S hK hH inG5 t0 kd_7 rfl 0 (by decide) gm_427 rfl rfl dX5_serve_46 (fun v23 hv23 fv23 => ?_)
    obtain ⟨rf24, rfl, trf24⟩ := th_V.ref hv23
    refine lv_aload_n hx hb dX5_serve_49 rfl (lv_at hl 0 rfl) ?_
    refine lv_iload_n hx hb dX5_serve_50 rfl (lv_at hl 2 rfl) ?_
    refine lv_aload_n hx hb dX5_serve_51 rfl (lv_at hl 1 rfl) ?_
    refine th_get S hK hH inG5 t0 kd_7 rfl 4 (by decide) gm_433 rfl rfl dX5_serve_52 (fun v25 hv25 fv25 => ?_)
    obtain ⟨rf26, rfl, trf26⟩ := th_V.ref hv25
    refine lv_iload_n hx hb dX5_serve_55 rfl (lv_at hl 2 rfl) ?_
    refine th_iald S hK hH trf26 kd_35 (th_in (hi := 3) j1 (by decide)) dX5_serve_56 (fun v27 hv27 => ?_)
    obtain ⟨x28, rfl, ix28⟩ := th_V.int hv27
    refine th_callVv (n := 3) (As := [.ref rf7, .int y1, .int x28]) S hK hH hS (th_A.sub (by decide)) (m_X0_eat l D cT T q hq rf24 trf24 rf7 trf7 (y1) j1 (x28) ix28) gm_913 gm_1059 gm_911 gm_912 gm_119 (by decide +kernel) ⟨rfl, rfl, Nat.le_of_ble_eq_true rfl, Nat.le_of_ble_eq_true rfl⟩ trf24 kd_4 rfl rfl hl.1 rfl (Nat.le_of_ble_eq_true rfl) dX5_serve_57 ⟨Nat.zero_le _, Nat.zero_le _⟩ (fun H locs hH hS hF1 => ?_)
    have f29 := f22.kept (hF1 _ f22.lt (th_off t0 (by decide)))
    exact th_vret S hK hH hS hr hlocks rfl dX5_serve_60
  exact J0 s.heap [] ls hH va_S.rf hl

set_option maxRecDepth 100000 in
theorem m_X5_findSparing_v0 (l : Launch) (D : va_G) (cT : Nat → ClassId) (T : Nat → Option Nat) (q : Nat → Int) (hq : qok q) (hpt : -1000 ≤ q 6) (a0 : Nat) (t0 : T a0 = some 7) (y1 : Int32) (j1 : IV y1 4 4) (y2 : Int32) (j2 : IV y2 (-360) 24) : th_Met l D cT T (kd q) yX5_findSparing cX5_findSparing 9 none (rmk 2 80) [.ref a0, .int y1, .int y2] (th_R T none) [7, 34] := by
  refine th_start (by decide) (Nat.le_of_ble_eq_true rfl) ?_
  intro p e s m below meth c ls S hK hH hr hlocks hnm hl
  have hx := S.1
  have hb := S.2.1
  have hl : lv_has ls 9 [(0, .ref a0), (1, .int y1), (2, .int y2)] := hl
  have J0 : ∀ (H : Heap) (locs : List Loc) (ls : Array Slot), th_H D cT T (kd q) H → va_S (th_A T [7, 34]) s.heap H locs → lv_has ls 9 [(0, .ref a0), (1, .int y1), (2, .int y2)] → W p l e (rmk 2 80) s m [.ref a0, .int y1, .int y2].toArray below meth c H locs 0 0 (MQ below (th_Q D cT T (kd q) (th_R T none) [7, 34]) [.ref a0, .int y1, .int y2].toArray s 0 0 (th_A T [7, 34])) (F0 m 0 ls []) := by
    intro H locs ls hH hS hl
    refine lv_aload_n hx hb dX5_findSparing_0 rfl (lv_at hl 0 rfl) ?_
    refine th_get S hK hH inG5 t0 kd_7 rfl 11 (by decide) gm_440 rfl rfl dX5_findSparing_1 (fun v1 hv1 fv1 => ?_)
    obtain ⟨x2, rfl, ix2⟩ := th_V.int hv1
    have ix2 : IV x2 (-1000) 25 := iv_w ix2 ⟨hpt, by decide⟩
    refine lv_iconst (v := 1) hx hb dX5_findSparing_4 (by decide) ?_
    refine lv_isub hx hb dX5_findSparing_5 ?_
    refine lv_topi (fun x3 ex3 => ?_)
    have ix3 : IV x3 (-1001) 24 := by rw [ex3]; exact iv_sub ix2 (iv_c (by decide) : IV 1 1 1) (by decide)
    refine lv_iload_n hx hb dX5_findSparing_6 rfl (lv_at hl 2 rfl) ?_
    refine lv_isub hx hb dX5_findSparing_7 ?_
    refine lv_topi (fun x4 ex4 => ?_)
    have ix4 : IV x4 (-1025) 384 := by rw [ex4]; exact iv_sub ix3 j2 (by decide)
    refine lv_istore_n (lv' := [(3, .int x4), (0, .ref a0), (1, .int y1), (2, .int y2)]) hx hb dX5_findSparing_8 rfl hl (by decide) rfl (fun ls hl => ?_)
    refine lv_aload_n hx hb dX5_findSparing_9 rfl (lv_at hl 1 rfl) ?_
    refine th_get S hK hH inG5 t0 kd_7 rfl 0 (by decide) gm_427 rfl rfl dX5_findSparing_10 (fun v5 hv5 fv5 => ?_)
    obtain ⟨rf6, rfl, trf6⟩ := th_V.ref hv5
    refine lv_aload_n hx hb dX5_findSparing_13 rfl (lv_at hl 1 rfl) ?_
    refine th_get S hK hH inG5 t0 kd_7 rfl 3 (by decide) gm_432 rfl rfl dX5_findSparing_14 (fun v7 hv7 fv7 => ?_)
    obtain ⟨rf8, rfl, trf8⟩ := th_V.ref hv7
    refine lv_iconst (v := 0) hx hb dX5_findSparing_17 (by decide) ?_
    refine th_aald S hK hH trf8 kd_32 (th_in (hi := 0) (iv_c (by decide) : IV 0 0 0) (by decide)) dX5_findSparing_18 (fun v9 hv9 => ?_)
    obtain ⟨rf10, rfl, trf10⟩ := th_V.ref hv9
    refine lv_aload_n hx hb dX5_findSparing_19 rfl (lv_at hl 1 rfl) ?_
    refine th_getK S hK fv7 inG5 rfl (by decide) gm_432 rfl dX5_findSparing_20 ?_
    refine lv_iload_n hx hb dX5_findSparing_23 rfl (lv_at hl 2 rfl) ?_
    refine th_aald S hK hH trf8 kd_32 (th_in (hi := 4) (iv_w j1 (by decide)) (by decide)) dX5_findSparing_24 (fun v12 hv12 => ?_)
    obtain ⟨rf13, rfl, trf13⟩ := th_V.ref hv12
    refine th_callVi (n := 2) (As := [.ref rf10, .ref rf13]) S hK hH hS (th_A.sub (by decide)) (m_X0_smaller l D cT T q hq rf6 trf6 rf10 trf10 rf13 trf13) gm_937 gm_1044 gm_935 gm_936 gm_119 (by decide +kernel) ⟨rfl, rfl, Nat.le_of_ble_eq_true rfl, Nat.le_of_ble_eq_true rfl⟩ trf6 kd_4 rfl rfl hl.1 rfl (Nat.le_of_ble_eq_true rfl) dX5_findSparing_25 ⟨Nat.zero_le _, Nat.zero_le _⟩ (fun x14 H locs ix14 hH hS hF1 => ?_)
    have f15 := fv1.kept (hF1 _ fv1.lt (th_off t0 (by decide)))
    have f16 := fv5.kept (hF1 _ fv5.lt (th_off t0 (by decide)))
    have f17 := fv7.kept (hF1 _ fv7.lt (th_off t0 (by decide)))
    refine lv_aload_n hx hb dX5_findSparing_28 rfl (lv_at hl 1 rfl) ?_
    refine th_get S hK hH inG5 t0 kd_7 rfl 10 (by decide) gm_439 rfl rfl dX5_findSparing_29 (fun v18 hv18 fv18 => ?_)
    obtain ⟨x19, rfl, ix19⟩ := th_V.int hv18
    refine lv_iand hx hb dX5_findSparing_32 ?_
    refine lv_topi (fun x20 ex20 => ?_)
    have ix20 := iv_top x20
    refine lv_istore (lv' := [(4, .int x20), (3, .int x4), (0, .ref a0), (1, .int y1), (2, .int y2)]) hx hb dX5_findSparing_33 hl (by decide) rfl (fun ls hl => ?_)
    refine lv_aload_n hx hb dX5_findSparing_35 rfl (lv_at hl 2 rfl) ?_
    refine lv_iload hx hb dX5_findSparing_36 (lv_at hl 0 rfl) ?_
    refine lv_iload_n hx hb dX5_findSparing_38 rfl (lv_at hl 3 rfl) ?_
    refine lv_iload_n hx hb dX5_findSparing_39 rfl (lv_at hl 1 rfl) ?_
    refine th_callVi (n := 3) (As := [.int x20, .int y1, .int x4]) S hK hH hS (th_A.sub (by decide)) (m_X5_canMend l D cT T q hq a0 t0 (x20) ix20 (y1) (iv_w j1 (by decide)) (x4) (iv_top _)) gm_1048 gm_1045 gm_1047 gm_33 gm_122 (by decide +kernel) ⟨rfl, rfl, Nat.le_of_ble_eq_true rfl, Nat.le_of_ble_eq_true rfl⟩ t0 kd_7 rfl rfl hl.1 rfl (Nat.le_of_ble_eq_true rfl) dX5_findSparing_40 ⟨Nat.zero_le _, Nat.zero_le _⟩ (fun x21 H locs ix21 hH hS hF1 => ?_)
    have f22 := f15.kept (hF1 _ f15.lt (th_off t0 (by decide)))
    have f23 := f16.kept (hF1 _ f16.lt (th_off t0 (by decide)))
    have f24 := f17.kept (hF1 _ f17.lt (th_off t0 (by decide)))
    refine lv_if_ne (tgt := 47) hx hb dX5_findSparing_43 (by decide) (fun c25 => ?_) (fun c25 => ?_)
    · skip
      have ir26 : IV x21 1 1 := iv_cutL ix21 (iv_c (by decide) : IV 0 0 0) c25 (by decide)
      refine lv_iload_n hx hb dX5_findSparing_47 rfl (lv_at hl 3 rfl) ?_
      refine lv_aload_n hx hb dX5_findSparing_48 rfl (lv_at hl 2 rfl) ?_
      refine th_getK S hK f23 inG5 rfl (by decide) gm_427 rfl dX5_findSparing_49 ?_
      refine th_get S hK hH inG0 trf6 kd_4 rfl 0 (by decide) gm_370 rfl rfl dX5_findSparing_52 (fun v28 hv28 fv28 => ?_)
      obtain ⟨rf29, rfl, trf29⟩ := th_V.ref hv28
      refine th_get S hK hH inG4 trf29 kd_3 rfl 12 (by decide) gm_281 rfl rfl dX5_findSparing_55 (fun v30 hv30 fv30 => ?_)
      obtain ⟨x31, rfl, ix31⟩ := th_V.int hv30
      refine lv_icmp_lt (tgt := 71) hx hb dX5_findSparing_58 (by decide) (fun c32 => ?_) (fun c32 => ?_)
      · skip
        exfalso
        have z1 := iv_lt c32
        have z2 := (j1).1
        have z3 := (j1).2
        have z4 := (ix31).1
        have z5 := (ix31).2
        omega
      · skip
        refine lv_aload_n hx hb dX5_findSparing_61 rfl (lv_at hl 2 rfl) ?_
        refine lv_iload_n hx hb dX5_findSparing_62 rfl (lv_at hl 4 rfl) ?_
        refine th_put S hK hH hS ⟨7, by decide, t0⟩ inG5 tyX5 tyX5_ok nmX5 t0 kd_7 rfl 11 (by decide) gm_440 rfl rfl rfl rfl (th_iv (iv_w (iv_w j2 (by decide) : IV y2 (-1000) 25) ⟨(qok_6 hq).2, by decide⟩)) (fun _ _ => trivial) (ty := .int) (by decide +kernel) rfl rfl dX5_findSparing_63 (fun H locs hH hS hq1 hp1 => ?_)
        have f33 := hp1.2 0 _ (by decide) (by decide) f23
        have f34 := hp1.2 3 _ (by decide) (by decide) f24
        have f35 := fv28.kept (hq1 _ (th_ne trf6 t0 (by decide)))
        have f36 := fv30.kept (hq1 _ (th_ne trf29 t0 (by decide)))
        have f37 := hp1.1
        refine lv_aload_n hx hb dX5_findSparing_66 rfl (lv_at hl 2 rfl) ?_
        refine th_callVv (n := 0) (As := []) S hK hH hS (th_A.sub (by decide)) (m_X5_layWay l D cT T q hq a0 t0) gm_1053 gm_1050 gm_1052 gm_34 gm_122 (by decide +kernel) ⟨rfl, rfl, Nat.le_of_ble_eq_true rfl, Nat.le_of_ble_eq_true rfl⟩ t0 kd_7 rfl rfl hl.1 rfl (Nat.le_of_ble_eq_true rfl) dX5_findSparing_67 ⟨Nat.zero_le _, Nat.zero_le _⟩ (fun H locs hH hS hF1 => ?_)
        have f38 := f35.kept (hF1 _ f35.lt (th_off trf6 (by decide)))
        have f39 := f36.kept (hF1 _ f36.lt (th_off trf29 (by decide)))
        exact th_vret S hK hH hS hr hlocks rfl dX5_findSparing_70
    · skip
      have ir40 : IV x21 0 0 := iv_eL c25 (iv_c (by decide) : IV 0 0 0)
      exact th_vret S hK hH hS hr hlocks rfl dX5_findSparing_46
  exact J0 s.heap [] ls hH va_S.rf hl

set_option maxRecDepth 100000 in
theorem m_X5_findSparing_v1 (l : Launch) (D : va_G) (cT : Nat → ClassId) (T : Nat → Option Nat) (q : Nat → Int) (hq : qok q) (hpt : -1000 ≤ q 6) (a0 : Nat) (t0 : T a0 = some 7) (y1 : Int32) (j1 : IV y1 3 3) (y2 : Int32) (j2 : IV y2 (-168) 24) : th_Met l D cT T (kd q) yX5_findSparing cX5_findSparing 9 none (rmk 5 127) [.ref a0, .int y1, .int y2] (th_R T none) [7, 18, 19, 29, 34, 38] := by
  refine th_start (by decide) (Nat.le_of_ble_eq_true rfl) ?_
  intro p e s m below meth c ls S hK hH hr hlocks hnm hl
  have hx := S.1
  have hb := S.2.1
  have hl : lv_has ls 9 [(0, .ref a0), (1, .int y1), (2, .int y2)] := hl
  have J109 : ∀ (n : Nat) (H : Heap) (locs : List Loc) (ls : Array Slot) (v109_5 : Int32) (v109_6 : Int32) (v109_7 : Int32) (u109_a0_11 : Int32), IV v109_5 (-2147483648) 192 → IV v109_6 1 1 → IV v109_7 0 1599 → IV u109_a0_11 (-1000) 25 → th_fa D H a0 5 11 (.int u109_a0_11) → th_H D cT T (kd q) H → va_S (th_A T [7, 18, 19, 29, 34, 38]) s.heap H locs → lv_has ls 9 [(0, .ref a0), (1, .int y1), (2, .int y2), (5, .int v109_5), (6, .int v109_6), (7, .int v109_7)] → (1599 + 1 - v109_7.toInt).toNat < n → W p l e (rmk 5 127) s m [.ref a0, .int y1, .int y2].toArray below meth c H locs 0 0 (MQ below (th_Q D cT T (kd q) (th_R T none) [7, 18, 19, 29, 34, 38]) [.ref a0, .int y1, .int y2].toArray s 0 0 (th_A T [7, 18, 19, 29, 34, 38])) (F0 m 109 ls []) := by
    intro n
    induction n with
    | zero => intro H locs ls v109_5 v109_6 v109_7 u109_a0_11 iv109_5 iv109_6 iv109_7 iu109_a0_11 gu109_a0_11 hH hS hl hn; exact absurd hn (Nat.not_lt_zero _)
    | succ n ih109 =>
      intro H locs ls v109_5 v109_6 v109_7 u109_a0_11 iv109_5 iv109_6 iv109_7 iu109_a0_11 gu109_a0_11 hH hS hl hn109
      have J180 : ∀ (H : Heap) (locs : List Loc) (ls : Array Slot) (u180_a0_11 : Int32), ¬ v109_6 = 0 → IV u180_a0_11 (-1000) 24 → th_fa D H a0 5 11 (.int u180_a0_11) → IV v109_5 0 192 → IV v109_7 0 192 → th_H D cT T (kd q) H → va_S (th_A T [7, 18, 19, 29, 34, 38]) s.heap H locs → lv_has ls 9 [(0, .ref a0), (1, .int y1), (2, .int y2), (5, .int v109_5), (6, .int v109_6), (7, .int v109_7)] → W p l e (rmk 5 127) s m [.ref a0, .int y1, .int y2].toArray below meth c H locs 0 0 (MQ below (th_Q D cT T (kd q) (th_R T none) [7, 18, 19, 29, 34, 38]) [.ref a0, .int y1, .int y2].toArray s 0 0 (th_A T [7, 18, 19, 29, 34, 38])) (F0 m 180 ls []) := by
        intro H locs ls u180_a0_11 d180_6_0 iu180_a0_11 gu180_a0_11 f180_v109_5 f180_v109_7 hH hS hl
        refine th_iinc S dX5_findSparing_180 hl (k := 5) rfl (by decide) f180_v109_7 (by decide) (fun x1 ls ex1 ix1 hl => ?_)
        have hl : lv_has ls 9 [(7, .int x1), (0, .ref a0), (1, .int y1), (2, .int y2), (5, .int v109_5), (6, .int v109_6)] := hl
        have ix1 : IV x1 1 193 := ix1
        refine lv_goto (tgt := 109) hx hb dX5_findSparing_183 (by decide) ?_
        exact ih109 H locs ls v109_5 v109_6 x1 u180_a0_11 (iv_w f180_v109_5 (by decide)) iv109_6 (iv_w ix1 (by decide)) (iv_w iu180_a0_11 (by decide)) gu180_a0_11 hH hS (lv_sub hl [1, 2, 3, 4, 5, 0] rfl) (th_up iv109_7 ex1 (by decide) hn109)
      have J131 : ∀ (H : Heap) (locs : List Loc) (ls : Array Slot) (w131_0 : Int32) (u131_a0_11 : Int32), IV w131_0 (-192) 192 → ¬ v109_6 = 0 → IV u131_a0_11 (-1000) 25 → th_fa D H a0 5 11 (.int u131_a0_11) → IV v109_5 0 192 → IV v109_7 0 192 → th_H D cT T (kd q) H → va_S (th_A T [7, 18, 19, 29, 34, 38]) s.heap H locs → lv_has ls 9 [(0, .ref a0), (1, .int y1), (2, .int y2), (5, .int v109_5), (6, .int v109_6), (7, .int v109_7)] → W p l e (rmk 5 127) s m [.ref a0, .int y1, .int y2].toArray below meth c H locs 0 0 (MQ below (th_Q D cT T (kd q) (th_R T none) [7, 18, 19, 29, 34, 38]) [.ref a0, .int y1, .int y2].toArray s 0 0 (th_A T [7, 18, 19, 29, 34, 38])) (F0 m 131 ls [.int w131_0]) := by
        intro H locs ls w131_0 u131_a0_11 iw131_0 d131_6_0 iu131_a0_11 gu131_a0_11 f131_v109_5 f131_v109_7 hH hS hl
        refine lv_istore (lv' := [(8, .int w131_0), (0, .ref a0), (1, .int y1), (2, .int y2), (5, .int v109_5), (6, .int v109_6), (7, .int v109_7)]) hx hb dX5_findSparing_131 hl (by decide) rfl (fun ls hl => ?_)
        refine lv_iload_n hx hb dX5_findSparing_133 rfl (lv_at hl 3 rfl) ?_
        refine lv_iload hx hb dX5_findSparing_134 (lv_at hl 0 rfl) ?_
        refine lv_iadd hx hb dX5_findSparing_136 ?_
        refine lv_topi (fun x2 ex2 => ?_)
        have ix2 : IV x2 (-360) 216 := by rw [ex2]; exact iv_add j2 iw131_0 (by decide)
        refine lv_aload_n hx hb dX5_findSparing_137 rfl (lv_at hl 1 rfl) ?_
        refine th_getK S hK gu131_a0_11 inG5 rfl (by decide) gm_440 rfl dX5_findSparing_138 ?_
        refine lv_icmp_lt (tgt := 145) hx hb dX5_findSparing_141 (by decide) (fun c4 => ?_) (fun c4 => ?_)
        · skip
          have ir5 : IV x2 (-360) 24 := iv_uL ix2 iu131_a0_11 (iv_lt c4) (by decide)
          have ir6 : IV u131_a0_11 (-359) 25 := iv_uR ix2 iu131_a0_11 (iv_lt c4) (by decide)
          refine lv_aload_n hx hb dX5_findSparing_145 rfl (lv_at hl 1 rfl) ?_
          refine lv_iload_n hx hb dX5_findSparing_146 rfl (lv_at hl 2 rfl) ?_
          refine lv_iload hx hb dX5_findSparing_147 (lv_at hl 0 rfl) ?_
          refine th_callVv (n := 2) (As := [.int y1, .int w131_0]) S hK hH hS (th_A.sub (by decide)) (m_X5_serve l D cT T q hq a0 t0 (y1) (iv_w j1 (by decide)) (w131_0) (iv_top _)) gm_1058 gm_1055 gm_1057 gm_35 gm_122 (by decide +kernel) ⟨rfl, rfl, Nat.le_of_ble_eq_true rfl, Nat.le_of_ble_eq_true rfl⟩ t0 kd_7 rfl rfl hl.1 rfl (Nat.le_of_ble_eq_true rfl) dX5_findSparing_149 ⟨Nat.zero_le _, Nat.zero_le _⟩ (fun H locs hH hS hF1 => ?_)
          have f7 := gu131_a0_11.kept (hF1 _ gu131_a0_11.lt (th_off t0 (by decide)))
          refine lv_aload_n hx hb dX5_findSparing_152 rfl (lv_at hl 1 rfl) ?_
          refine lv_iload_n hx hb dX5_findSparing_153 rfl (lv_at hl 2 rfl) ?_
          refine lv_iconst (v := 1) hx hb dX5_findSparing_154 (by decide) ?_
          refine lv_iadd hx hb dX5_findSparing_155 ?_
          refine lv_topi (fun x8 ex8 => ?_)
          have ix8 : IV x8 4 4 := by rw [ex8]; exact iv_add j1 (iv_c (by decide) : IV 1 1 1) (by decide)
          refine lv_iload_n hx hb dX5_findSparing_156 rfl (lv_at hl 3 rfl) ?_
          refine lv_iload hx hb dX5_findSparing_157 (lv_at hl 0 rfl) ?_
          refine lv_iadd hx hb dX5_findSparing_159 ?_
          refine lv_topi (fun x9 ex9 => ?_)
          have zx9 : x2 = x9 := ex2.trans ex9.symm
          subst zx9
          refine th_callVv (n := 2) (As := [.int x8, .int x2]) S hK hH hS (th_A.sub (by decide)) (m_X5_findSparing_v0 l D cT T q hq hpt a0 t0 (x8) ix8 (x2) ir5) gm_1043 gm_1040 gm_1042 gm_32 gm_122 (by decide +kernel) ⟨rfl, rfl, Nat.le_of_ble_eq_true rfl, Nat.le_of_ble_eq_true rfl⟩ t0 kd_7 rfl rfl hl.1 rfl (Nat.le_of_ble_eq_true rfl) dX5_findSparing_160 ⟨Nat.zero_le _, Nat.zero_le _⟩ (fun H locs hH hS hF1 => ?_)
          refine lv_iload hx hb dX5_findSparing_163 (lv_at hl 5 rfl) ?_
          refine lv_if_eq (tgt := 180) hx hb dX5_findSparing_165 (by decide) (fun c10 => ?_) (fun c10 => ?_)
          · skip
            exact absurd c10 d131_6_0
          · skip
            refine lv_aload_n hx hb dX5_findSparing_168 rfl (lv_at hl 1 rfl) ?_
            refine th_get S hK hH inG5 t0 kd_7 rfl 11 (by decide) gm_440 rfl rfl dX5_findSparing_169 (fun v11 hv11 fv11 => ?_)
            obtain ⟨x12, rfl, ix12⟩ := th_V.int hv11
            have ix12 : IV x12 (-1000) 25 := iv_w ix12 ⟨hpt, by decide⟩
            refine lv_iload_n hx hb dX5_findSparing_172 rfl (lv_at hl 3 rfl) ?_
            refine lv_iload hx hb dX5_findSparing_173 (lv_at hl 0 rfl) ?_
            refine lv_iadd hx hb dX5_findSparing_175 ?_
            refine lv_topi (fun x13 ex13 => ?_)
            have zx13 : x2 = x13 := ex2.trans ex13.symm
            subst zx13
            refine lv_icmp_le (tgt := 180) hx hb dX5_findSparing_176 (by decide) (fun c14 => ?_) (fun c14 => ?_)
            · skip
              have ir15 : IV x12 (-1000) 24 := iv_vL ix12 ir5 (iv_le c14) (by decide)
              exact J180 H locs ls x12 c10 ir15 fv11 f131_v109_5 f131_v109_7 hH hS (lv_sub hl [1, 2, 3, 4, 5, 6] rfl)
            · skip
              have ir16 : IV x12 (-359) 25 := iv_uR ir5 ix12 (iv_nle c14) (by decide)
              exact th_vret S hK hH hS hr hlocks rfl dX5_findSparing_179
        · skip
          exact th_vret S hK hH hS hr hlocks rfl dX5_findSparing_144
      refine lv_iload hx hb dX5_findSparing_109 (lv_at hl 5 rfl) ?_
      refine lv_iload hx hb dX5_findSparing_111 (lv_at hl 3 rfl) ?_
      refine lv_icmp_gt (tgt := 186) hx hb dX5_findSparing_113 (by decide) (fun c17 => ?_) (fun c17 => ?_)
      · skip
        exact th_vret S hK hH hS hr hlocks rfl dX5_findSparing_186
      · skip
        have ir18 : IV v109_5 0 192 := iv_vR iv109_7 iv109_5 (iv_nlt c17) (by decide)
        have ir19 : IV v109_7 0 192 := iv_vL iv109_7 iv109_5 (iv_nlt c17) (by decide)
        refine lv_iload hx hb dX5_findSparing_116 (lv_at hl 4 rfl) ?_
        refine lv_if_eq (tgt := 129) hx hb dX5_findSparing_118 (by decide) (fun c20 => ?_) (fun c20 => ?_)
        · skip
          exfalso
          have z1 := congrArg Int32.toInt c20
          have z2 := (iv109_6).1
          have z3 := (iv109_6).2
          have z4 := ((iv_c (by decide) : IV 0 0 0)).1
          have z5 := ((iv_c (by decide) : IV 0 0 0)).2
          omega
        · skip
          refine lv_iload hx hb dX5_findSparing_121 (lv_at hl 3 rfl) ?_
          refine lv_iload hx hb dX5_findSparing_123 (lv_at hl 5 rfl) ?_
          refine lv_isub hx hb dX5_findSparing_125 ?_
          refine lv_topi (fun x21 ex21 => ?_)
          have ix21 : IV x21 (-192) 192 := by rw [ex21]; exact iv_sub ir18 ir19 (by decide)
          refine lv_goto (tgt := 131) hx hb dX5_findSparing_126 (by decide) ?_
          exact J131 H locs ls x21 u109_a0_11 ix21 c20 iu109_a0_11 gu109_a0_11 ir18 ir19 hH hS (lv_sub hl [0, 1, 2, 3, 4, 5] rfl)
  have J104_s0_1 : ∀ (H : Heap) (locs : List Loc) (ls : Array Slot) (v104_5 : Int32) (u104_a0_11 : Int32), IV v104_5 (-2147483648) 192 → IV u104_a0_11 (-1000) 25 → th_fa D H a0 5 11 (.int u104_a0_11) → th_H D cT T (kd q) H → va_S (th_A T [7, 18, 19, 29, 34, 38]) s.heap H locs → lv_has ls 9 [(0, .ref a0), (1, .int y1), (2, .int y2), (5, .int v104_5)] → W p l e (rmk 5 127) s m [.ref a0, .int y1, .int y2].toArray below meth c H locs 0 0 (MQ below (th_Q D cT T (kd q) (th_R T none) [7, 18, 19, 29, 34, 38]) [.ref a0, .int y1, .int y2].toArray s 0 0 (th_A T [7, 18, 19, 29, 34, 38])) (F0 m 104 ls [.int 1]) := by
    intro H locs ls v104_5 u104_a0_11 iv104_5 iu104_a0_11 gu104_a0_11 hH hS hl
    refine lv_istore (lv' := [(6, .int 1), (0, .ref a0), (1, .int y1), (2, .int y2), (5, .int v104_5)]) hx hb dX5_findSparing_104 hl (by decide) rfl (fun ls hl => ?_)
    refine lv_iconst (v := 0) hx hb dX5_findSparing_106 (by decide) ?_
    refine lv_istore (lv' := [(7, .int 0), (6, .int 1), (0, .ref a0), (1, .int y1), (2, .int y2), (5, .int v104_5)]) hx hb dX5_findSparing_107 hl (by decide) rfl (fun ls hl => ?_)
    exact J109 ((1599 + 1 - Int32.toInt 0).toNat + 1) H locs ls v104_5 1 0 u104_a0_11 iv104_5 (iv_c (by decide) : IV 1 1 1) (iv_w (iv_c (by decide) : IV 0 0 0) (by decide)) iu104_a0_11 gu104_a0_11 hH hS (lv_sub hl [2, 3, 4, 5, 1, 0] rfl) (Nat.lt_succ_self _)
  have J0 : ∀ (H : Heap) (locs : List Loc) (ls : Array Slot), th_H D cT T (kd q) H → va_S (th_A T [7, 18, 19, 29, 34, 38]) s.heap H locs → lv_has ls 9 [(0, .ref a0), (1, .int y1), (2, .int y2)] → W p l e (rmk 5 127) s m [.ref a0, .int y1, .int y2].toArray below meth c H locs 0 0 (MQ below (th_Q D cT T (kd q) (th_R T none) [7, 18, 19, 29, 34, 38]) [.ref a0, .int y1, .int y2].toArray s 0 0 (th_A T [7, 18, 19, 29, 34, 38])) (F0 m 0 ls []) := by
    intro H locs ls hH hS hl
    refine lv_aload_n hx hb dX5_findSparing_0 rfl (lv_at hl 0 rfl) ?_
    refine th_get S hK hH inG5 t0 kd_7 rfl 11 (by decide) gm_440 rfl rfl dX5_findSparing_1 (fun v22 hv22 fv22 => ?_)
    obtain ⟨x23, rfl, ix23⟩ := th_V.int hv22
    have ix23 : IV x23 (-1000) 25 := iv_w ix23 ⟨hpt, by decide⟩
    refine lv_iconst (v := 1) hx hb dX5_findSparing_4 (by decide) ?_
    refine lv_isub hx hb dX5_findSparing_5 ?_
    refine lv_topi (fun x24 ex24 => ?_)
    have ix24 : IV x24 (-1001) 24 := by rw [ex24]; exact iv_sub ix23 (iv_c (by decide) : IV 1 1 1) (by decide)
    refine lv_iload_n hx hb dX5_findSparing_6 rfl (lv_at hl 2 rfl) ?_
    refine lv_isub hx hb dX5_findSparing_7 ?_
    refine lv_topi (fun x25 ex25 => ?_)
    have ix25 : IV x25 (-1025) 192 := by rw [ex25]; exact iv_sub ix24 j2 (by decide)
    refine lv_istore_n (lv' := [(3, .int x25), (0, .ref a0), (1, .int y1), (2, .int y2)]) hx hb dX5_findSparing_8 rfl hl (by decide) rfl (fun ls hl => ?_)
    refine lv_aload_n hx hb dX5_findSparing_9 rfl (lv_at hl 1 rfl) ?_
    refine th_get S hK hH inG5 t0 kd_7 rfl 0 (by decide) gm_427 rfl rfl dX5_findSparing_10 (fun v26 hv26 fv26 => ?_)
    obtain ⟨rf27, rfl, trf27⟩ := th_V.ref hv26
    refine lv_aload_n hx hb dX5_findSparing_13 rfl (lv_at hl 1 rfl) ?_
    refine th_get S hK hH inG5 t0 kd_7 rfl 3 (by decide) gm_432 rfl rfl dX5_findSparing_14 (fun v28 hv28 fv28 => ?_)
    obtain ⟨rf29, rfl, trf29⟩ := th_V.ref hv28
    refine lv_iconst (v := 0) hx hb dX5_findSparing_17 (by decide) ?_
    refine th_aald S hK hH trf29 kd_32 (th_in (hi := 0) (iv_c (by decide) : IV 0 0 0) (by decide)) dX5_findSparing_18 (fun v30 hv30 => ?_)
    obtain ⟨rf31, rfl, trf31⟩ := th_V.ref hv30
    refine lv_aload_n hx hb dX5_findSparing_19 rfl (lv_at hl 1 rfl) ?_
    refine th_getK S hK fv28 inG5 rfl (by decide) gm_432 rfl dX5_findSparing_20 ?_
    refine lv_iload_n hx hb dX5_findSparing_23 rfl (lv_at hl 2 rfl) ?_
    refine th_aald S hK hH trf29 kd_32 (th_in (hi := 3) (iv_w j1 (by decide)) (by decide)) dX5_findSparing_24 (fun v33 hv33 => ?_)
    obtain ⟨rf34, rfl, trf34⟩ := th_V.ref hv33
    refine th_callVi (n := 2) (As := [.ref rf31, .ref rf34]) S hK hH hS (th_A.sub (by decide)) (m_X0_smaller l D cT T q hq rf27 trf27 rf31 trf31 rf34 trf34) gm_937 gm_1044 gm_935 gm_936 gm_119 (by decide +kernel) ⟨rfl, rfl, Nat.le_of_ble_eq_true rfl, Nat.le_of_ble_eq_true rfl⟩ trf27 kd_4 rfl rfl hl.1 rfl (Nat.le_of_ble_eq_true rfl) dX5_findSparing_25 ⟨Nat.zero_le _, Nat.zero_le _⟩ (fun x35 H locs ix35 hH hS hF1 => ?_)
    have f36 := fv22.kept (hF1 _ fv22.lt (th_off t0 (by decide)))
    have f37 := fv26.kept (hF1 _ fv26.lt (th_off t0 (by decide)))
    have f38 := fv28.kept (hF1 _ fv28.lt (th_off t0 (by decide)))
    refine lv_aload_n hx hb dX5_findSparing_28 rfl (lv_at hl 1 rfl) ?_
    refine th_get S hK hH inG5 t0 kd_7 rfl 10 (by decide) gm_439 rfl rfl dX5_findSparing_29 (fun v39 hv39 fv39 => ?_)
    obtain ⟨x40, rfl, ix40⟩ := th_V.int hv39
    refine lv_iand hx hb dX5_findSparing_32 ?_
    refine lv_topi (fun x41 ex41 => ?_)
    have ix41 := iv_top x41
    refine lv_istore (lv' := [(4, .int x41), (3, .int x25), (0, .ref a0), (1, .int y1), (2, .int y2)]) hx hb dX5_findSparing_33 hl (by decide) rfl (fun ls hl => ?_)
    refine lv_aload_n hx hb dX5_findSparing_35 rfl (lv_at hl 2 rfl) ?_
    refine lv_iload hx hb dX5_findSparing_36 (lv_at hl 0 rfl) ?_
    refine lv_iload_n hx hb dX5_findSparing_38 rfl (lv_at hl 3 rfl) ?_
    refine lv_iload_n hx hb dX5_findSparing_39 rfl (lv_at hl 1 rfl) ?_
    refine th_callVi (n := 3) (As := [.int x41, .int y1, .int x25]) S hK hH hS (th_A.sub (by decide)) (m_X5_canMend l D cT T q hq a0 t0 (x41) ix41 (y1) (iv_w j1 (by decide)) (x25) (iv_top _)) gm_1048 gm_1045 gm_1047 gm_33 gm_122 (by decide +kernel) ⟨rfl, rfl, Nat.le_of_ble_eq_true rfl, Nat.le_of_ble_eq_true rfl⟩ t0 kd_7 rfl rfl hl.1 rfl (Nat.le_of_ble_eq_true rfl) dX5_findSparing_40 ⟨Nat.zero_le _, Nat.zero_le _⟩ (fun x42 H locs ix42 hH hS hF1 => ?_)
    have f43 := f36.kept (hF1 _ f36.lt (th_off t0 (by decide)))
    have f44 := f37.kept (hF1 _ f37.lt (th_off t0 (by decide)))
    have f45 := f38.kept (hF1 _ f38.lt (th_off t0 (by decide)))
    refine lv_if_ne (tgt := 47) hx hb dX5_findSparing_43 (by decide) (fun c46 => ?_) (fun c46 => ?_)
    · skip
      have ir47 : IV x42 1 1 := iv_cutL ix42 (iv_c (by decide) : IV 0 0 0) c46 (by decide)
      refine lv_iload_n hx hb dX5_findSparing_47 rfl (lv_at hl 3 rfl) ?_
      refine lv_aload_n hx hb dX5_findSparing_48 rfl (lv_at hl 2 rfl) ?_
      refine th_getK S hK f44 inG5 rfl (by decide) gm_427 rfl dX5_findSparing_49 ?_
      refine th_get S hK hH inG0 trf27 kd_4 rfl 0 (by decide) gm_370 rfl rfl dX5_findSparing_52 (fun v49 hv49 fv49 => ?_)
      obtain ⟨rf50, rfl, trf50⟩ := th_V.ref hv49
      refine th_get S hK hH inG4 trf50 kd_3 rfl 12 (by decide) gm_281 rfl rfl dX5_findSparing_55 (fun v51 hv51 fv51 => ?_)
      obtain ⟨x52, rfl, ix52⟩ := th_V.int hv51
      refine lv_icmp_lt (tgt := 71) hx hb dX5_findSparing_58 (by decide) (fun c53 => ?_) (fun c53 => ?_)
      · skip
        have ir54 : IV x52 4 4 := iv_uR j1 ix52 (iv_lt c53) (by decide)
        refine lv_iload_n hx hb dX5_findSparing_71 rfl (lv_at hl 1 rfl) ?_
        refine lv_aload_n hx hb dX5_findSparing_72 rfl (lv_at hl 2 rfl) ?_
        refine th_get S hK hH inG5 t0 kd_7 rfl 5 (by decide) gm_434 rfl rfl dX5_findSparing_73 (fun v55 hv55 fv55 => ?_)
        obtain ⟨rf56, rfl, trf56⟩ := th_V.ref hv55
        refine lv_iload_n hx hb dX5_findSparing_76 rfl (lv_at hl 3 rfl) ?_
        refine th_iald S hK hH trf56 kd_36 (th_in (hi := 3) (iv_w j1 (by decide)) (by decide)) dX5_findSparing_77 (fun v57 hv57 => ?_)
        obtain ⟨x58, rfl, ix58⟩ := th_V.int hv57
        refine va_mmin hx hb (S.2.2.1.trans hl.1.symm) S.2.2.2.1 (S.2.2.2.2 _ gm_1039) (S.2.2.2.2 _ gm_649) (S.2.2.2.2 _ gm_129) (S.2.2.2.2 _ gm_650) (Nat.le_of_ble_eq_true rfl) (Nat.le_of_ble_eq_true rfl) (Nat.zero_le _) (Nat.zero_le _) dX5_findSparing_78 ?_
        refine lv_topi (fun x59 ex59 => ?_)
        have ix59 : IV x59 (-2147483648) 192 := by rw [ex59]; exact iv_min ix25 ix58 (by decide)
        refine lv_istore (lv' := [(5, .int x59), (4, .int x41), (3, .int x25), (0, .ref a0), (1, .int y1), (2, .int y2)]) hx hb dX5_findSparing_81 hl (by decide) rfl (fun ls hl => ?_)
        refine lv_iload_n hx hb dX5_findSparing_83 rfl (lv_at hl 4 rfl) ?_
        refine lv_aload_n hx hb dX5_findSparing_84 rfl (lv_at hl 3 rfl) ?_
        refine th_getK S hK f44 inG5 rfl (by decide) gm_427 rfl dX5_findSparing_85 ?_
        refine th_getK S hK fv49 inG0 rfl (by decide) gm_370 rfl dX5_findSparing_88 ?_
        refine th_getK S hK fv51 inG4 rfl (by decide) gm_281 rfl dX5_findSparing_91 ?_
        refine lv_iconst (v := 1) hx hb dX5_findSparing_94 (by decide) ?_
        refine lv_isub hx hb dX5_findSparing_95 ?_
        refine lv_topi (fun x63 ex63 => ?_)
        have ix63 : IV x63 3 3 := by rw [ex63]; exact iv_sub ir54 (iv_c (by decide) : IV 1 1 1) (by decide)
        refine lv_icmp_ne (tgt := 103) hx hb dX5_findSparing_96 (by decide) (fun c64 => ?_) (fun c64 => ?_)
        · skip
          exact absurd (iv_eqc j1 ix63) c64
        · skip
          refine lv_iconst (v := 1) hx hb dX5_findSparing_99 (by decide) ?_
          refine lv_goto (tgt := 104) hx hb dX5_findSparing_100 (by decide) ?_
          exact J104_s0_1 H locs ls x59 x23 ix59 ix23 f43 hH hS (lv_sub hl [3, 4, 5, 0] rfl)
      · skip
        have ir65 : IV x52 0 3 := iv_vL ix52 j1 (iv_nlt c53) (by decide)
        refine lv_aload_n hx hb dX5_findSparing_61 rfl (lv_at hl 2 rfl) ?_
        refine lv_iload_n hx hb dX5_findSparing_62 rfl (lv_at hl 4 rfl) ?_
        refine th_put S hK hH hS ⟨7, by decide, t0⟩ inG5 tyX5 tyX5_ok nmX5 t0 kd_7 rfl 11 (by decide) gm_440 rfl rfl rfl rfl (th_iv (iv_w (iv_w j2 (by decide) : IV y2 (-1000) 25) ⟨(qok_6 hq).2, by decide⟩)) (fun _ _ => trivial) (ty := .int) (by decide +kernel) rfl rfl dX5_findSparing_63 (fun H locs hH hS hq1 hp1 => ?_)
        have f66 := hp1.2 0 _ (by decide) (by decide) f44
        have f67 := hp1.2 3 _ (by decide) (by decide) f45
        have f68 := fv49.kept (hq1 _ (th_ne trf27 t0 (by decide)))
        have f69 := fv51.kept (hq1 _ (th_ne trf50 t0 (by decide)))
        have f70 := hp1.1
        refine lv_aload_n hx hb dX5_findSparing_66 rfl (lv_at hl 2 rfl) ?_
        refine th_callVv (n := 0) (As := []) S hK hH hS (th_A.sub (by decide)) (m_X5_layWay l D cT T q hq a0 t0) gm_1053 gm_1050 gm_1052 gm_34 gm_122 (by decide +kernel) ⟨rfl, rfl, Nat.le_of_ble_eq_true rfl, Nat.le_of_ble_eq_true rfl⟩ t0 kd_7 rfl rfl hl.1 rfl (Nat.le_of_ble_eq_true rfl) dX5_findSparing_67 ⟨Nat.zero_le _, Nat.zero_le _⟩ (fun H locs hH hS hF1 => ?_)
        have f71 := f68.kept (hF1 _ f68.lt (th_off trf27 (by decide)))
        have f72 := f69.kept (hF1 _ f69.lt (th_off trf50 (by decide)))
        exact th_vret S hK hH hS hr hlocks rfl dX5_findSparing_70
    · skip
      have ir73 : IV x42 0 0 := iv_eL c46 (iv_c (by decide) : IV 0 0 0)
      exact th_vret S hK hH hS hr hlocks rfl dX5_findSparing_46
  exact J0 s.heap [] ls hH va_S.rf hl

set_option maxRecDepth 100000 in
theorem m_X5_findSparing_v2 (l : Launch) (D : va_G) (cT : Nat → ClassId) (T : Nat → Option Nat) (q : Nat → Int) (hq : qok q) (hpt : -1000 ≤ q 6) (a0 : Nat) (t0 : T a0 = some 7) (y1 : Int32) (j1 : IV y1 2 2) (y2 : Int32) (j2 : IV y2 (-72) 24) : th_Met l D cT T (kd q) yX5_findSparing cX5_findSparing 9 none (rmk 6 155) [.ref a0, .int y1, .int y2] (th_R T none) [7, 18, 19, 29, 34, 38] := by
  refine th_start (by decide) (Nat.le_of_ble_eq_true rfl) ?_
  intro p e s m below meth c ls S hK hH hr hlocks hnm hl
  have hx := S.1
  have hb := S.2.1
  have hl : lv_has ls 9 [(0, .ref a0), (1, .int y1), (2, .int y2)] := hl
  have J109 : ∀ (n : Nat) (H : Heap) (locs : List Loc) (ls : Array Slot) (v109_5 : Int32) (v109_6 : Int32) (v109_7 : Int32), IV v109_5 (-2147483648) 96 → IV v109_6 0 1 → IV v109_7 0 127 → th_H D cT T (kd q) H → va_S (th_A T [7, 18, 19, 29, 34, 38]) s.heap H locs → lv_has ls 9 [(0, .ref a0), (1, .int y1), (2, .int y2), (5, .int v109_5), (6, .int v109_6), (7, .int v109_7)] → (127 + 1 - v109_7.toInt).toNat < n → W p l e (rmk 6 155) s m [.ref a0, .int y1, .int y2].toArray below meth c H locs 0 0 (MQ below (th_Q D cT T (kd q) (th_R T none) [7, 18, 19, 29, 34, 38]) [.ref a0, .int y1, .int y2].toArray s 0 0 (th_A T [7, 18, 19, 29, 34, 38])) (F0 m 109 ls []) := by
    intro n
    induction n with
    | zero => intro H locs ls v109_5 v109_6 v109_7 iv109_5 iv109_6 iv109_7 hH hS hl hn; exact absurd hn (Nat.not_lt_zero _)
    | succ n ih109 =>
      intro H locs ls v109_5 v109_6 v109_7 iv109_5 iv109_6 iv109_7 hH hS hl hn109
      have J180 : ∀ (H : Heap) (locs : List Loc) (ls : Array Slot), IV v109_5 0 96 → IV v109_7 0 96 → th_H D cT T (kd q) H → va_S (th_A T [7, 18, 19, 29, 34, 38]) s.heap H locs → lv_has ls 9 [(0, .ref a0), (1, .int y1), (2, .int y2), (5, .int v109_5), (6, .int v109_6), (7, .int v109_7)] → W p l e (rmk 6 155) s m [.ref a0, .int y1, .int y2].toArray below meth c H locs 0 0 (MQ below (th_Q D cT T (kd q) (th_R T none) [7, 18, 19, 29, 34, 38]) [.ref a0, .int y1, .int y2].toArray s 0 0 (th_A T [7, 18, 19, 29, 34, 38])) (F0 m 180 ls []) := by
        intro H locs ls f180_v109_5 f180_v109_7 hH hS hl
        refine th_iinc S dX5_findSparing_180 hl (k := 5) rfl (by decide) f180_v109_7 (by decide) (fun x1 ls ex1 ix1 hl => ?_)
        have hl : lv_has ls 9 [(7, .int x1), (0, .ref a0), (1, .int y1), (2, .int y2), (5, .int v109_5), (6, .int v109_6)] := hl
        have ix1 : IV x1 1 97 := ix1
        refine lv_goto (tgt := 109) hx hb dX5_findSparing_183 (by decide) ?_
        exact ih109 H locs ls v109_5 v109_6 x1 (iv_w f180_v109_5 (by decide)) iv109_6 (iv_w ix1 (by decide)) hH hS (lv_sub hl [1, 2, 3, 4, 5, 0] rfl) (th_up iv109_7 ex1 (by decide) hn109)
      have J131 : ∀ (H : Heap) (locs : List Loc) (ls : Array Slot) (w131_0 : Int32), IV w131_0 (-96) 96 → IV v109_5 0 96 → IV v109_7 0 96 → th_H D cT T (kd q) H → va_S (th_A T [7, 18, 19, 29, 34, 38]) s.heap H locs → lv_has ls 9 [(0, .ref a0), (1, .int y1), (2, .int y2), (5, .int v109_5), (6, .int v109_6), (7, .int v109_7)] → W p l e (rmk 6 155) s m [.ref a0, .int y1, .int y2].toArray below meth c H locs 0 0 (MQ below (th_Q D cT T (kd q) (th_R T none) [7, 18, 19, 29, 34, 38]) [.ref a0, .int y1, .int y2].toArray s 0 0 (th_A T [7, 18, 19, 29, 34, 38])) (F0 m 131 ls [.int w131_0]) := by
        intro H locs ls w131_0 iw131_0 f131_v109_5 f131_v109_7 hH hS hl
        refine lv_istore (lv' := [(8, .int w131_0), (0, .ref a0), (1, .int y1), (2, .int y2), (5, .int v109_5), (6, .int v109_6), (7, .int v109_7)]) hx hb dX5_findSparing_131 hl (by decide) rfl (fun ls hl => ?_)
        refine lv_iload_n hx hb dX5_findSparing_133 rfl (lv_at hl 3 rfl) ?_
        refine lv_iload hx hb dX5_findSparing_134 (lv_at hl 0 rfl) ?_
        refine lv_iadd hx hb dX5_findSparing_136 ?_
        refine lv_topi (fun x2 ex2 => ?_)
        have ix2 : IV x2 (-168) 120 := by rw [ex2]; exact iv_add j2 iw131_0 (by decide)
        refine lv_aload_n hx hb dX5_findSparing_137 rfl (lv_at hl 1 rfl) ?_
        refine th_get S hK hH inG5 t0 kd_7 rfl 11 (by decide) gm_440 rfl rfl dX5_findSparing_138 (fun v3 hv3 fv3 => ?_)
        obtain ⟨x4, rfl, ix4⟩ := th_V.int hv3
        have ix4 : IV x4 (-1000) 25 := iv_w ix4 ⟨hpt, by decide⟩
        refine lv_icmp_lt (tgt := 145) hx hb dX5_findSparing_141 (by decide) (fun c5 => ?_) (fun c5 => ?_)
        · skip
          have ir6 : IV x2 (-168) 24 := iv_uL ix2 ix4 (iv_lt c5) (by decide)
          have ir7 : IV x4 (-167) 25 := iv_uR ix2 ix4 (iv_lt c5) (by decide)
          refine lv_aload_n hx hb dX5_findSparing_145 rfl (lv_at hl 1 rfl) ?_
          refine lv_iload_n hx hb dX5_findSparing_146 rfl (lv_at hl 2 rfl) ?_
          refine lv_iload hx hb dX5_findSparing_147 (lv_at hl 0 rfl) ?_
          refine th_callVv (n := 2) (As := [.int y1, .int w131_0]) S hK hH hS (th_A.sub (by decide)) (m_X5_serve l D cT T q hq a0 t0 (y1) (iv_w j1 (by decide)) (w131_0) (iv_top _)) gm_1058 gm_1055 gm_1057 gm_35 gm_122 (by decide +kernel) ⟨rfl, rfl, Nat.le_of_ble_eq_true rfl, Nat.le_of_ble_eq_true rfl⟩ t0 kd_7 rfl rfl hl.1 rfl (Nat.le_of_ble_eq_true rfl) dX5_findSparing_149 ⟨Nat.zero_le _, Nat.zero_le _⟩ (fun H locs hH hS hF1 => ?_)
          have f8 := fv3.kept (hF1 _ fv3.lt (th_off t0 (by decide)))
          refine lv_aload_n hx hb dX5_findSparing_152 rfl (lv_at hl 1 rfl) ?_
          refine lv_iload_n hx hb dX5_findSparing_153 rfl (lv_at hl 2 rfl) ?_
          refine lv_iconst (v := 1) hx hb dX5_findSparing_154 (by decide) ?_
          refine lv_iadd hx hb dX5_findSparing_155 ?_
          refine lv_topi (fun x9 ex9 => ?_)
          have ix9 : IV x9 3 3 := by rw [ex9]; exact iv_add j1 (iv_c (by decide) : IV 1 1 1) (by decide)
          refine lv_iload_n hx hb dX5_findSparing_156 rfl (lv_at hl 3 rfl) ?_
          refine lv_iload hx hb dX5_findSparing_157 (lv_at hl 0 rfl) ?_
          refine lv_iadd hx hb dX5_findSparing_159 ?_
          refine lv_topi (fun x10 ex10 => ?_)
          have zx10 : x2 = x10 := ex2.trans ex10.symm
          subst zx10
          refine th_callVv (n := 2) (As := [.int x9, .int x2]) S hK hH hS (th_A.sub (by decide)) (m_X5_findSparing_v1 l D cT T q hq hpt a0 t0 (x9) ix9 (x2) ir6) gm_1043 gm_1040 gm_1042 gm_32 gm_122 (by decide +kernel) ⟨rfl, rfl, Nat.le_of_ble_eq_true rfl, Nat.le_of_ble_eq_true rfl⟩ t0 kd_7 rfl rfl hl.1 rfl (Nat.le_of_ble_eq_true rfl) dX5_findSparing_160 ⟨Nat.zero_le _, Nat.zero_le _⟩ (fun H locs hH hS hF1 => ?_)
          refine lv_iload hx hb dX5_findSparing_163 (lv_at hl 5 rfl) ?_
          refine lv_if_eq (tgt := 180) hx hb dX5_findSparing_165 (by decide) (fun c11 => ?_) (fun c11 => ?_)
          · skip
            have ir12 : IV v109_6 0 0 := iv_eL c11 (iv_c (by decide) : IV 0 0 0)
            exact J180 H locs ls f131_v109_5 f131_v109_7 hH hS (lv_sub hl [1, 2, 3, 4, 5, 6] rfl)
          · skip
            have ir13 : IV v109_6 1 1 := iv_cutL iv109_6 (iv_c (by decide) : IV 0 0 0) c11 (by decide)
            refine lv_aload_n hx hb dX5_findSparing_168 rfl (lv_at hl 1 rfl) ?_
            refine th_get S hK hH inG5 t0 kd_7 rfl 11 (by decide) gm_440 rfl rfl dX5_findSparing_169 (fun v14 hv14 fv14 => ?_)
            obtain ⟨x15, rfl, ix15⟩ := th_V.int hv14
            have ix15 : IV x15 (-1000) 25 := iv_w ix15 ⟨hpt, by decide⟩
            refine lv_iload_n hx hb dX5_findSparing_172 rfl (lv_at hl 3 rfl) ?_
            refine lv_iload hx hb dX5_findSparing_173 (lv_at hl 0 rfl) ?_
            refine lv_iadd hx hb dX5_findSparing_175 ?_
            refine lv_topi (fun x16 ex16 => ?_)
            have zx16 : x2 = x16 := ex2.trans ex16.symm
            subst zx16
            refine lv_icmp_le (tgt := 180) hx hb dX5_findSparing_176 (by decide) (fun c17 => ?_) (fun c17 => ?_)
            · skip
              have ir18 : IV x15 (-1000) 24 := iv_vL ix15 ir6 (iv_le c17) (by decide)
              exact J180 H locs ls f131_v109_5 f131_v109_7 hH hS (lv_sub hl [1, 2, 3, 4, 5, 6] rfl)
            · skip
              have ir19 : IV x15 (-167) 25 := iv_uR ir6 ix15 (iv_nle c17) (by decide)
              exact th_vret S hK hH hS hr hlocks rfl dX5_findSparing_179
        · skip
          exact th_vret S hK hH hS hr hlocks rfl dX5_findSparing_144
      refine lv_iload hx hb dX5_findSparing_109 (lv_at hl 5 rfl) ?_
      refine lv_iload hx hb dX5_findSparing_111 (lv_at hl 3 rfl) ?_
      refine lv_icmp_gt (tgt := 186) hx hb dX5_findSparing_113 (by decide) (fun c20 => ?_) (fun c20 => ?_)
      · skip
        exact th_vret S hK hH hS hr hlocks rfl dX5_findSparing_186
      · skip
        have ir21 : IV v109_5 0 96 := iv_vR iv109_7 iv109_5 (iv_nlt c20) (by decide)
        have ir22 : IV v109_7 0 96 := iv_vL iv109_7 iv109_5 (iv_nlt c20) (by decide)
        refine lv_iload hx hb dX5_findSparing_116 (lv_at hl 4 rfl) ?_
        refine lv_if_eq (tgt := 129) hx hb dX5_findSparing_118 (by decide) (fun c23 => ?_) (fun c23 => ?_)
        · skip
          have ir24 : IV v109_6 0 0 := iv_eL c23 (iv_c (by decide) : IV 0 0 0)
          refine lv_iload hx hb dX5_findSparing_129 (lv_at hl 5 rfl) ?_
          exact J131 H locs ls v109_7 (iv_w ir22 (by decide)) ir21 ir22 hH hS (lv_sub hl [0, 1, 2, 3, 4, 5] rfl)
        · skip
          have ir25 : IV v109_6 1 1 := iv_cutL iv109_6 (iv_c (by decide) : IV 0 0 0) c23 (by decide)
          refine lv_iload hx hb dX5_findSparing_121 (lv_at hl 3 rfl) ?_
          refine lv_iload hx hb dX5_findSparing_123 (lv_at hl 5 rfl) ?_
          refine lv_isub hx hb dX5_findSparing_125 ?_
          refine lv_topi (fun x26 ex26 => ?_)
          have ix26 : IV x26 (-96) 96 := by rw [ex26]; exact iv_sub ir21 ir22 (by decide)
          refine lv_goto (tgt := 131) hx hb dX5_findSparing_126 (by decide) ?_
          exact J131 H locs ls x26 ix26 ir21 ir22 hH hS (lv_sub hl [0, 1, 2, 3, 4, 5] rfl)
  have J104_s0_0 : ∀ (H : Heap) (locs : List Loc) (ls : Array Slot) (v104_5 : Int32) (u104_a0_11 : Int32), IV v104_5 (-2147483648) 96 → IV u104_a0_11 (-1000) 25 → th_fa D H a0 5 11 (.int u104_a0_11) → th_H D cT T (kd q) H → va_S (th_A T [7, 18, 19, 29, 34, 38]) s.heap H locs → lv_has ls 9 [(0, .ref a0), (1, .int y1), (2, .int y2), (5, .int v104_5)] → W p l e (rmk 6 155) s m [.ref a0, .int y1, .int y2].toArray below meth c H locs 0 0 (MQ below (th_Q D cT T (kd q) (th_R T none) [7, 18, 19, 29, 34, 38]) [.ref a0, .int y1, .int y2].toArray s 0 0 (th_A T [7, 18, 19, 29, 34, 38])) (F0 m 104 ls [.int 0]) := by
    intro H locs ls v104_5 u104_a0_11 iv104_5 iu104_a0_11 gu104_a0_11 hH hS hl
    refine lv_istore (lv' := [(6, .int 0), (0, .ref a0), (1, .int y1), (2, .int y2), (5, .int v104_5)]) hx hb dX5_findSparing_104 hl (by decide) rfl (fun ls hl => ?_)
    refine lv_iconst (v := 0) hx hb dX5_findSparing_106 (by decide) ?_
    refine lv_istore (lv' := [(7, .int 0), (6, .int 0), (0, .ref a0), (1, .int y1), (2, .int y2), (5, .int v104_5)]) hx hb dX5_findSparing_107 hl (by decide) rfl (fun ls hl => ?_)
    exact J109 ((127 + 1 - Int32.toInt 0).toNat + 1) H locs ls v104_5 0 0 iv104_5 (iv_w (iv_c (by decide) : IV 0 0 0) (by decide)) (iv_w (iv_c (by decide) : IV 0 0 0) (by decide)) hH hS (lv_sub hl [2, 3, 4, 5, 1, 0] rfl) (Nat.lt_succ_self _)
  have J104_s0_1 : ∀ (H : Heap) (locs : List Loc) (ls : Array Slot) (v104_5 : Int32) (u104_a0_11 : Int32), IV v104_5 (-2147483648) 96 → IV u104_a0_11 (-1000) 25 → th_fa D H a0 5 11 (.int u104_a0_11) → th_H D cT T (kd q) H → va_S (th_A T [7, 18, 19, 29, 34, 38]) s.heap H locs → lv_has ls 9 [(0, .ref a0), (1, .int y1), (2, .int y2), (5, .int v104_5)] → W p l e (rmk 6 155) s m [.ref a0, .int y1, .int y2].toArray below meth c H locs 0 0 (MQ below (th_Q D cT T (kd q) (th_R T none) [7, 18, 19, 29, 34, 38]) [.ref a0, .int y1, .int y2].toArray s 0 0 (th_A T [7, 18, 19, 29, 34, 38])) (F0 m 104 ls [.int 1]) := by
    intro H locs ls v104_5 u104_a0_11 iv104_5 iu104_a0_11 gu104_a0_11 hH hS hl
    refine lv_istore (lv' := [(6, .int 1), (0, .ref a0), (1, .int y1), (2, .int y2), (5, .int v104_5)]) hx hb dX5_findSparing_104 hl (by decide) rfl (fun ls hl => ?_)
    refine lv_iconst (v := 0) hx hb dX5_findSparing_106 (by decide) ?_
    refine lv_istore (lv' := [(7, .int 0), (6, .int 1), (0, .ref a0), (1, .int y1), (2, .int y2), (5, .int v104_5)]) hx hb dX5_findSparing_107 hl (by decide) rfl (fun ls hl => ?_)
    exact J109 ((127 + 1 - Int32.toInt 0).toNat + 1) H locs ls v104_5 1 0 iv104_5 (iv_w (iv_c (by decide) : IV 1 1 1) (by decide)) (iv_w (iv_c (by decide) : IV 0 0 0) (by decide)) hH hS (lv_sub hl [2, 3, 4, 5, 1, 0] rfl) (Nat.lt_succ_self _)
  have J0 : ∀ (H : Heap) (locs : List Loc) (ls : Array Slot), th_H D cT T (kd q) H → va_S (th_A T [7, 18, 19, 29, 34, 38]) s.heap H locs → lv_has ls 9 [(0, .ref a0), (1, .int y1), (2, .int y2)] → W p l e (rmk 6 155) s m [.ref a0, .int y1, .int y2].toArray below meth c H locs 0 0 (MQ below (th_Q D cT T (kd q) (th_R T none) [7, 18, 19, 29, 34, 38]) [.ref a0, .int y1, .int y2].toArray s 0 0 (th_A T [7, 18, 19, 29, 34, 38])) (F0 m 0 ls []) := by
    intro H locs ls hH hS hl
    refine lv_aload_n hx hb dX5_findSparing_0 rfl (lv_at hl 0 rfl) ?_
    refine th_get S hK hH inG5 t0 kd_7 rfl 11 (by decide) gm_440 rfl rfl dX5_findSparing_1 (fun v27 hv27 fv27 => ?_)
    obtain ⟨x28, rfl, ix28⟩ := th_V.int hv27
    have ix28 : IV x28 (-1000) 25 := iv_w ix28 ⟨hpt, by decide⟩
    refine lv_iconst (v := 1) hx hb dX5_findSparing_4 (by decide) ?_
    refine lv_isub hx hb dX5_findSparing_5 ?_
    refine lv_topi (fun x29 ex29 => ?_)
    have ix29 : IV x29 (-1001) 24 := by rw [ex29]; exact iv_sub ix28 (iv_c (by decide) : IV 1 1 1) (by decide)
    refine lv_iload_n hx hb dX5_findSparing_6 rfl (lv_at hl 2 rfl) ?_
    refine lv_isub hx hb dX5_findSparing_7 ?_
    refine lv_topi (fun x30 ex30 => ?_)
    have ix30 : IV x30 (-1025) 96 := by rw [ex30]; exact iv_sub ix29 j2 (by decide)
    refine lv_istore_n (lv' := [(3, .int x30), (0, .ref a0), (1, .int y1), (2, .int y2)]) hx hb dX5_findSparing_8 rfl hl (by decide) rfl (fun ls hl => ?_)
    refine lv_aload_n hx hb dX5_findSparing_9 rfl (lv_at hl 1 rfl) ?_
    refine th_get S hK hH inG5 t0 kd_7 rfl 0 (by decide) gm_427 rfl rfl dX5_findSparing_10 (fun v31 hv31 fv31 => ?_)
    obtain ⟨rf32, rfl, trf32⟩ := th_V.ref hv31
    refine lv_aload_n hx hb dX5_findSparing_13 rfl (lv_at hl 1 rfl) ?_
    refine th_get S hK hH inG5 t0 kd_7 rfl 3 (by decide) gm_432 rfl rfl dX5_findSparing_14 (fun v33 hv33 fv33 => ?_)
    obtain ⟨rf34, rfl, trf34⟩ := th_V.ref hv33
    refine lv_iconst (v := 0) hx hb dX5_findSparing_17 (by decide) ?_
    refine th_aald S hK hH trf34 kd_32 (th_in (hi := 0) (iv_c (by decide) : IV 0 0 0) (by decide)) dX5_findSparing_18 (fun v35 hv35 => ?_)
    obtain ⟨rf36, rfl, trf36⟩ := th_V.ref hv35
    refine lv_aload_n hx hb dX5_findSparing_19 rfl (lv_at hl 1 rfl) ?_
    refine th_getK S hK fv33 inG5 rfl (by decide) gm_432 rfl dX5_findSparing_20 ?_
    refine lv_iload_n hx hb dX5_findSparing_23 rfl (lv_at hl 2 rfl) ?_
    refine th_aald S hK hH trf34 kd_32 (th_in (hi := 2) (iv_w j1 (by decide)) (by decide)) dX5_findSparing_24 (fun v38 hv38 => ?_)
    obtain ⟨rf39, rfl, trf39⟩ := th_V.ref hv38
    refine th_callVi (n := 2) (As := [.ref rf36, .ref rf39]) S hK hH hS (th_A.sub (by decide)) (m_X0_smaller l D cT T q hq rf32 trf32 rf36 trf36 rf39 trf39) gm_937 gm_1044 gm_935 gm_936 gm_119 (by decide +kernel) ⟨rfl, rfl, Nat.le_of_ble_eq_true rfl, Nat.le_of_ble_eq_true rfl⟩ trf32 kd_4 rfl rfl hl.1 rfl (Nat.le_of_ble_eq_true rfl) dX5_findSparing_25 ⟨Nat.zero_le _, Nat.zero_le _⟩ (fun x40 H locs ix40 hH hS hF1 => ?_)
    have f41 := fv27.kept (hF1 _ fv27.lt (th_off t0 (by decide)))
    have f42 := fv31.kept (hF1 _ fv31.lt (th_off t0 (by decide)))
    have f43 := fv33.kept (hF1 _ fv33.lt (th_off t0 (by decide)))
    refine lv_aload_n hx hb dX5_findSparing_28 rfl (lv_at hl 1 rfl) ?_
    refine th_get S hK hH inG5 t0 kd_7 rfl 10 (by decide) gm_439 rfl rfl dX5_findSparing_29 (fun v44 hv44 fv44 => ?_)
    obtain ⟨x45, rfl, ix45⟩ := th_V.int hv44
    refine lv_iand hx hb dX5_findSparing_32 ?_
    refine lv_topi (fun x46 ex46 => ?_)
    have ix46 := iv_top x46
    refine lv_istore (lv' := [(4, .int x46), (3, .int x30), (0, .ref a0), (1, .int y1), (2, .int y2)]) hx hb dX5_findSparing_33 hl (by decide) rfl (fun ls hl => ?_)
    refine lv_aload_n hx hb dX5_findSparing_35 rfl (lv_at hl 2 rfl) ?_
    refine lv_iload hx hb dX5_findSparing_36 (lv_at hl 0 rfl) ?_
    refine lv_iload_n hx hb dX5_findSparing_38 rfl (lv_at hl 3 rfl) ?_
    refine lv_iload_n hx hb dX5_findSparing_39 rfl (lv_at hl 1 rfl) ?_
    refine th_callVi (n := 3) (As := [.int x46, .int y1, .int x30]) S hK hH hS (th_A.sub (by decide)) (m_X5_canMend l D cT T q hq a0 t0 (x46) ix46 (y1) (iv_w j1 (by decide)) (x30) (iv_top _)) gm_1048 gm_1045 gm_1047 gm_33 gm_122 (by decide +kernel) ⟨rfl, rfl, Nat.le_of_ble_eq_true rfl, Nat.le_of_ble_eq_true rfl⟩ t0 kd_7 rfl rfl hl.1 rfl (Nat.le_of_ble_eq_true rfl) dX5_findSparing_40 ⟨Nat.zero_le _, Nat.zero_le _⟩ (fun x47 H locs ix47 hH hS hF1 => ?_)
    have f48 := f41.kept (hF1 _ f41.lt (th_off t0 (by decide)))
    have f49 := f42.kept (hF1 _ f42.lt (th_off t0 (by decide)))
    have f50 := f43.kept (hF1 _ f43.lt (th_off t0 (by decide)))
    refine lv_if_ne (tgt := 47) hx hb dX5_findSparing_43 (by decide) (fun c51 => ?_) (fun c51 => ?_)
    · skip
      have ir52 : IV x47 1 1 := iv_cutL ix47 (iv_c (by decide) : IV 0 0 0) c51 (by decide)
      refine lv_iload_n hx hb dX5_findSparing_47 rfl (lv_at hl 3 rfl) ?_
      refine lv_aload_n hx hb dX5_findSparing_48 rfl (lv_at hl 2 rfl) ?_
      refine th_getK S hK f49 inG5 rfl (by decide) gm_427 rfl dX5_findSparing_49 ?_
      refine th_get S hK hH inG0 trf32 kd_4 rfl 0 (by decide) gm_370 rfl rfl dX5_findSparing_52 (fun v54 hv54 fv54 => ?_)
      obtain ⟨rf55, rfl, trf55⟩ := th_V.ref hv54
      refine th_get S hK hH inG4 trf55 kd_3 rfl 12 (by decide) gm_281 rfl rfl dX5_findSparing_55 (fun v56 hv56 fv56 => ?_)
      obtain ⟨x57, rfl, ix57⟩ := th_V.int hv56
      refine lv_icmp_lt (tgt := 71) hx hb dX5_findSparing_58 (by decide) (fun c58 => ?_) (fun c58 => ?_)
      · skip
        have ir59 : IV x57 3 4 := iv_uR j1 ix57 (iv_lt c58) (by decide)
        refine lv_iload_n hx hb dX5_findSparing_71 rfl (lv_at hl 1 rfl) ?_
        refine lv_aload_n hx hb dX5_findSparing_72 rfl (lv_at hl 2 rfl) ?_
        refine th_get S hK hH inG5 t0 kd_7 rfl 5 (by decide) gm_434 rfl rfl dX5_findSparing_73 (fun v60 hv60 fv60 => ?_)
        obtain ⟨rf61, rfl, trf61⟩ := th_V.ref hv60
        refine lv_iload_n hx hb dX5_findSparing_76 rfl (lv_at hl 3 rfl) ?_
        refine th_iald S hK hH trf61 kd_36 (th_in (hi := 2) (iv_w j1 (by decide)) (by decide)) dX5_findSparing_77 (fun v62 hv62 => ?_)
        obtain ⟨x63, rfl, ix63⟩ := th_V.int hv62
        refine va_mmin hx hb (S.2.2.1.trans hl.1.symm) S.2.2.2.1 (S.2.2.2.2 _ gm_1039) (S.2.2.2.2 _ gm_649) (S.2.2.2.2 _ gm_129) (S.2.2.2.2 _ gm_650) (Nat.le_of_ble_eq_true rfl) (Nat.le_of_ble_eq_true rfl) (Nat.zero_le _) (Nat.zero_le _) dX5_findSparing_78 ?_
        refine lv_topi (fun x64 ex64 => ?_)
        have ix64 : IV x64 (-2147483648) 96 := by rw [ex64]; exact iv_min ix30 ix63 (by decide)
        refine lv_istore (lv' := [(5, .int x64), (4, .int x46), (3, .int x30), (0, .ref a0), (1, .int y1), (2, .int y2)]) hx hb dX5_findSparing_81 hl (by decide) rfl (fun ls hl => ?_)
        refine lv_iload_n hx hb dX5_findSparing_83 rfl (lv_at hl 4 rfl) ?_
        refine lv_aload_n hx hb dX5_findSparing_84 rfl (lv_at hl 3 rfl) ?_
        refine th_getK S hK f49 inG5 rfl (by decide) gm_427 rfl dX5_findSparing_85 ?_
        refine th_getK S hK fv54 inG0 rfl (by decide) gm_370 rfl dX5_findSparing_88 ?_
        refine th_getK S hK fv56 inG4 rfl (by decide) gm_281 rfl dX5_findSparing_91 ?_
        refine lv_iconst (v := 1) hx hb dX5_findSparing_94 (by decide) ?_
        refine lv_isub hx hb dX5_findSparing_95 ?_
        refine lv_topi (fun x68 ex68 => ?_)
        have ix68 : IV x68 2 3 := by rw [ex68]; exact iv_sub ir59 (iv_c (by decide) : IV 1 1 1) (by decide)
        refine lv_icmp_ne (tgt := 103) hx hb dX5_findSparing_96 (by decide) (fun c69 => ?_) (fun c69 => ?_)
        · skip
          refine lv_iconst (v := 0) hx hb dX5_findSparing_103 (by decide) ?_
          exact J104_s0_0 H locs ls x64 x28 ix64 ix28 f48 hH hS (lv_sub hl [3, 4, 5, 0] rfl)
        · skip
          have ir70 : IV x68 2 2 := iv_eR c69 j1
          refine lv_iconst (v := 1) hx hb dX5_findSparing_99 (by decide) ?_
          refine lv_goto (tgt := 104) hx hb dX5_findSparing_100 (by decide) ?_
          exact J104_s0_1 H locs ls x64 x28 ix64 ix28 f48 hH hS (lv_sub hl [3, 4, 5, 0] rfl)
      · skip
        have ir71 : IV x57 0 2 := iv_vL ix57 j1 (iv_nlt c58) (by decide)
        refine lv_aload_n hx hb dX5_findSparing_61 rfl (lv_at hl 2 rfl) ?_
        refine lv_iload_n hx hb dX5_findSparing_62 rfl (lv_at hl 4 rfl) ?_
        refine th_put S hK hH hS ⟨7, by decide, t0⟩ inG5 tyX5 tyX5_ok nmX5 t0 kd_7 rfl 11 (by decide) gm_440 rfl rfl rfl rfl (th_iv (iv_w (iv_w j2 (by decide) : IV y2 (-1000) 25) ⟨(qok_6 hq).2, by decide⟩)) (fun _ _ => trivial) (ty := .int) (by decide +kernel) rfl rfl dX5_findSparing_63 (fun H locs hH hS hq1 hp1 => ?_)
        have f72 := hp1.2 0 _ (by decide) (by decide) f49
        have f73 := hp1.2 3 _ (by decide) (by decide) f50
        have f74 := fv54.kept (hq1 _ (th_ne trf32 t0 (by decide)))
        have f75 := fv56.kept (hq1 _ (th_ne trf55 t0 (by decide)))
        have f76 := hp1.1
        refine lv_aload_n hx hb dX5_findSparing_66 rfl (lv_at hl 2 rfl) ?_
        refine th_callVv (n := 0) (As := []) S hK hH hS (th_A.sub (by decide)) (m_X5_layWay l D cT T q hq a0 t0) gm_1053 gm_1050 gm_1052 gm_34 gm_122 (by decide +kernel) ⟨rfl, rfl, Nat.le_of_ble_eq_true rfl, Nat.le_of_ble_eq_true rfl⟩ t0 kd_7 rfl rfl hl.1 rfl (Nat.le_of_ble_eq_true rfl) dX5_findSparing_67 ⟨Nat.zero_le _, Nat.zero_le _⟩ (fun H locs hH hS hF1 => ?_)
        have f77 := f74.kept (hF1 _ f74.lt (th_off trf32 (by decide)))
        have f78 := f75.kept (hF1 _ f75.lt (th_off trf55 (by decide)))
        exact th_vret S hK hH hS hr hlocks rfl dX5_findSparing_70
    · skip
      have ir79 : IV x47 0 0 := iv_eL c51 (iv_c (by decide) : IV 0 0 0)
      exact th_vret S hK hH hS hr hlocks rfl dX5_findSparing_46
  exact J0 s.heap [] ls hH va_S.rf hl

set_option maxRecDepth 100000 in
theorem m_X5_findSparing_v3 (l : Launch) (D : va_G) (cT : Nat → ClassId) (T : Nat → Option Nat) (q : Nat → Int) (hq : qok q) (hpt : -1000 ≤ q 6) (a0 : Nat) (t0 : T a0 = some 7) (y1 : Int32) (j1 : IV y1 1 1) (y2 : Int32) (j2 : IV y2 (-24) 24) : th_Met l D cT T (kd q) yX5_findSparing cX5_findSparing 9 none (rmk 7 183) [.ref a0, .int y1, .int y2] (th_R T none) [7, 18, 19, 29, 34, 38] := by
  refine th_start (by decide) (Nat.le_of_ble_eq_true rfl) ?_
  intro p e s m below meth c ls S hK hH hr hlocks hnm hl
  have hx := S.1
  have hb := S.2.1
  have hl : lv_has ls 9 [(0, .ref a0), (1, .int y1), (2, .int y2)] := hl
  have J109 : ∀ (n : Nat) (H : Heap) (locs : List Loc) (ls : Array Slot) (v109_5 : Int32) (v109_6 : Int32) (v109_7 : Int32), IV v109_5 (-2147483648) 48 → IV v109_6 0 1 → IV v109_7 0 63 → th_H D cT T (kd q) H → va_S (th_A T [7, 18, 19, 29, 34, 38]) s.heap H locs → lv_has ls 9 [(0, .ref a0), (1, .int y1), (2, .int y2), (5, .int v109_5), (6, .int v109_6), (7, .int v109_7)] → (63 + 1 - v109_7.toInt).toNat < n → W p l e (rmk 7 183) s m [.ref a0, .int y1, .int y2].toArray below meth c H locs 0 0 (MQ below (th_Q D cT T (kd q) (th_R T none) [7, 18, 19, 29, 34, 38]) [.ref a0, .int y1, .int y2].toArray s 0 0 (th_A T [7, 18, 19, 29, 34, 38])) (F0 m 109 ls []) := by
    intro n
    induction n with
    | zero => intro H locs ls v109_5 v109_6 v109_7 iv109_5 iv109_6 iv109_7 hH hS hl hn; exact absurd hn (Nat.not_lt_zero _)
    | succ n ih109 =>
      intro H locs ls v109_5 v109_6 v109_7 iv109_5 iv109_6 iv109_7 hH hS hl hn109
      have J180 : ∀ (H : Heap) (locs : List Loc) (ls : Array Slot), IV v109_5 0 48 → IV v109_7 0 48 → th_H D cT T (kd q) H → va_S (th_A T [7, 18, 19, 29, 34, 38]) s.heap H locs → lv_has ls 9 [(0, .ref a0), (1, .int y1), (2, .int y2), (5, .int v109_5), (6, .int v109_6), (7, .int v109_7)] → W p l e (rmk 7 183) s m [.ref a0, .int y1, .int y2].toArray below meth c H locs 0 0 (MQ below (th_Q D cT T (kd q) (th_R T none) [7, 18, 19, 29, 34, 38]) [.ref a0, .int y1, .int y2].toArray s 0 0 (th_A T [7, 18, 19, 29, 34, 38])) (F0 m 180 ls []) := by
        intro H locs ls f180_v109_5 f180_v109_7 hH hS hl
        refine th_iinc S dX5_findSparing_180 hl (k := 5) rfl (by decide) f180_v109_7 (by decide) (fun x1 ls ex1 ix1 hl => ?_)
        have hl : lv_has ls 9 [(7, .int x1), (0, .ref a0), (1, .int y1), (2, .int y2), (5, .int v109_5), (6, .int v109_6)] := hl
        have ix1 : IV x1 1 49 := ix1
        refine lv_goto (tgt := 109) hx hb dX5_findSparing_183 (by decide) ?_
        exact ih109 H locs ls v109_5 v109_6 x1 (iv_w f180_v109_5 (by decide)) iv109_6 (iv_w ix1 (by decide)) hH hS (lv_sub hl [1, 2, 3, 4, 5, 0] rfl) (th_up iv109_7 ex1 (by decide) hn109)
      have J131 : ∀ (H : Heap) (locs : List Loc) (ls : Array Slot) (w131_0 : Int32), IV w131_0 (-48) 48 → IV v109_5 0 48 → IV v109_7 0 48 → th_H D cT T (kd q) H → va_S (th_A T [7, 18, 19, 29, 34, 38]) s.heap H locs → lv_has ls 9 [(0, .ref a0), (1, .int y1), (2, .int y2), (5, .int v109_5), (6, .int v109_6), (7, .int v109_7)] → W p l e (rmk 7 183) s m [.ref a0, .int y1, .int y2].toArray below meth c H locs 0 0 (MQ below (th_Q D cT T (kd q) (th_R T none) [7, 18, 19, 29, 34, 38]) [.ref a0, .int y1, .int y2].toArray s 0 0 (th_A T [7, 18, 19, 29, 34, 38])) (F0 m 131 ls [.int w131_0]) := by
        intro H locs ls w131_0 iw131_0 f131_v109_5 f131_v109_7 hH hS hl
        refine lv_istore (lv' := [(8, .int w131_0), (0, .ref a0), (1, .int y1), (2, .int y2), (5, .int v109_5), (6, .int v109_6), (7, .int v109_7)]) hx hb dX5_findSparing_131 hl (by decide) rfl (fun ls hl => ?_)
        refine lv_iload_n hx hb dX5_findSparing_133 rfl (lv_at hl 3 rfl) ?_
        refine lv_iload hx hb dX5_findSparing_134 (lv_at hl 0 rfl) ?_
        refine lv_iadd hx hb dX5_findSparing_136 ?_
        refine lv_topi (fun x2 ex2 => ?_)
        have ix2 : IV x2 (-72) 72 := by rw [ex2]; exact iv_add j2 iw131_0 (by decide)
        refine lv_aload_n hx hb dX5_findSparing_137 rfl (lv_at hl 1 rfl) ?_
        refine th_get S hK hH inG5 t0 kd_7 rfl 11 (by decide) gm_440 rfl rfl dX5_findSparing_138 (fun v3 hv3 fv3 => ?_)
        obtain ⟨x4, rfl, ix4⟩ := th_V.int hv3
        have ix4 : IV x4 (-1000) 25 := iv_w ix4 ⟨hpt, by decide⟩
        refine lv_icmp_lt (tgt := 145) hx hb dX5_findSparing_141 (by decide) (fun c5 => ?_) (fun c5 => ?_)
        · skip
          have ir6 : IV x2 (-72) 24 := iv_uL ix2 ix4 (iv_lt c5) (by decide)
          have ir7 : IV x4 (-71) 25 := iv_uR ix2 ix4 (iv_lt c5) (by decide)
          refine lv_aload_n hx hb dX5_findSparing_145 rfl (lv_at hl 1 rfl) ?_
          refine lv_iload_n hx hb dX5_findSparing_146 rfl (lv_at hl 2 rfl) ?_
          refine lv_iload hx hb dX5_findSparing_147 (lv_at hl 0 rfl) ?_
          refine th_callVv (n := 2) (As := [.int y1, .int w131_0]) S hK hH hS (th_A.sub (by decide)) (m_X5_serve l D cT T q hq a0 t0 (y1) (iv_w j1 (by decide)) (w131_0) (iv_top _)) gm_1058 gm_1055 gm_1057 gm_35 gm_122 (by decide +kernel) ⟨rfl, rfl, Nat.le_of_ble_eq_true rfl, Nat.le_of_ble_eq_true rfl⟩ t0 kd_7 rfl rfl hl.1 rfl (Nat.le_of_ble_eq_true rfl) dX5_findSparing_149 ⟨Nat.zero_le _, Nat.zero_le _⟩ (fun H locs hH hS hF1 => ?_)
          have f8 := fv3.kept (hF1 _ fv3.lt (th_off t0 (by decide)))
          refine lv_aload_n hx hb dX5_findSparing_152 rfl (lv_at hl 1 rfl) ?_
          refine lv_iload_n hx hb dX5_findSparing_153 rfl (lv_at hl 2 rfl) ?_
          refine lv_iconst (v := 1) hx hb dX5_findSparing_154 (by decide) ?_
          refine lv_iadd hx hb dX5_findSparing_155 ?_
          refine lv_topi (fun x9 ex9 => ?_)
          have ix9 : IV x9 2 2 := by rw [ex9]; exact iv_add j1 (iv_c (by decide) : IV 1 1 1) (by decide)
          refine lv_iload_n hx hb dX5_findSparing_156 rfl (lv_at hl 3 rfl) ?_
          refine lv_iload hx hb dX5_findSparing_157 (lv_at hl 0 rfl) ?_
          refine lv_iadd hx hb dX5_findSparing_159 ?_
          refine lv_topi (fun x10 ex10 => ?_)
          have zx10 : x2 = x10 := ex2.trans ex10.symm
          subst zx10
          refine th_callVv (n := 2) (As := [.int x9, .int x2]) S hK hH hS (th_A.sub (by decide)) (m_X5_findSparing_v2 l D cT T q hq hpt a0 t0 (x9) ix9 (x2) ir6) gm_1043 gm_1040 gm_1042 gm_32 gm_122 (by decide +kernel) ⟨rfl, rfl, Nat.le_of_ble_eq_true rfl, Nat.le_of_ble_eq_true rfl⟩ t0 kd_7 rfl rfl hl.1 rfl (Nat.le_of_ble_eq_true rfl) dX5_findSparing_160 ⟨Nat.zero_le _, Nat.zero_le _⟩ (fun H locs hH hS hF1 => ?_)
          refine lv_iload hx hb dX5_findSparing_163 (lv_at hl 5 rfl) ?_
          refine lv_if_eq (tgt := 180) hx hb dX5_findSparing_165 (by decide) (fun c11 => ?_) (fun c11 => ?_)
          · skip
            have ir12 : IV v109_6 0 0 := iv_eL c11 (iv_c (by decide) : IV 0 0 0)
            exact J180 H locs ls f131_v109_5 f131_v109_7 hH hS (lv_sub hl [1, 2, 3, 4, 5, 6] rfl)
          · skip
            have ir13 : IV v109_6 1 1 := iv_cutL iv109_6 (iv_c (by decide) : IV 0 0 0) c11 (by decide)
            refine lv_aload_n hx hb dX5_findSparing_168 rfl (lv_at hl 1 rfl) ?_
            refine th_get S hK hH inG5 t0 kd_7 rfl 11 (by decide) gm_440 rfl rfl dX5_findSparing_169 (fun v14 hv14 fv14 => ?_)
            obtain ⟨x15, rfl, ix15⟩ := th_V.int hv14
            have ix15 : IV x15 (-1000) 25 := iv_w ix15 ⟨hpt, by decide⟩
            refine lv_iload_n hx hb dX5_findSparing_172 rfl (lv_at hl 3 rfl) ?_
            refine lv_iload hx hb dX5_findSparing_173 (lv_at hl 0 rfl) ?_
            refine lv_iadd hx hb dX5_findSparing_175 ?_
            refine lv_topi (fun x16 ex16 => ?_)
            have zx16 : x2 = x16 := ex2.trans ex16.symm
            subst zx16
            refine lv_icmp_le (tgt := 180) hx hb dX5_findSparing_176 (by decide) (fun c17 => ?_) (fun c17 => ?_)
            · skip
              have ir18 : IV x15 (-1000) 24 := iv_vL ix15 ir6 (iv_le c17) (by decide)
              exact J180 H locs ls f131_v109_5 f131_v109_7 hH hS (lv_sub hl [1, 2, 3, 4, 5, 6] rfl)
            · skip
              have ir19 : IV x15 (-71) 25 := iv_uR ir6 ix15 (iv_nle c17) (by decide)
              exact th_vret S hK hH hS hr hlocks rfl dX5_findSparing_179
        · skip
          exact th_vret S hK hH hS hr hlocks rfl dX5_findSparing_144
      refine lv_iload hx hb dX5_findSparing_109 (lv_at hl 5 rfl) ?_
      refine lv_iload hx hb dX5_findSparing_111 (lv_at hl 3 rfl) ?_
      refine lv_icmp_gt (tgt := 186) hx hb dX5_findSparing_113 (by decide) (fun c20 => ?_) (fun c20 => ?_)
      · skip
        exact th_vret S hK hH hS hr hlocks rfl dX5_findSparing_186
      · skip
        have ir21 : IV v109_5 0 48 := iv_vR iv109_7 iv109_5 (iv_nlt c20) (by decide)
        have ir22 : IV v109_7 0 48 := iv_vL iv109_7 iv109_5 (iv_nlt c20) (by decide)
        refine lv_iload hx hb dX5_findSparing_116 (lv_at hl 4 rfl) ?_
        refine lv_if_eq (tgt := 129) hx hb dX5_findSparing_118 (by decide) (fun c23 => ?_) (fun c23 => ?_)
        · skip
          have ir24 : IV v109_6 0 0 := iv_eL c23 (iv_c (by decide) : IV 0 0 0)
          refine lv_iload hx hb dX5_findSparing_129 (lv_at hl 5 rfl) ?_
          exact J131 H locs ls v109_7 (iv_w ir22 (by decide)) ir21 ir22 hH hS (lv_sub hl [0, 1, 2, 3, 4, 5] rfl)
        · skip
          have ir25 : IV v109_6 1 1 := iv_cutL iv109_6 (iv_c (by decide) : IV 0 0 0) c23 (by decide)
          refine lv_iload hx hb dX5_findSparing_121 (lv_at hl 3 rfl) ?_
          refine lv_iload hx hb dX5_findSparing_123 (lv_at hl 5 rfl) ?_
          refine lv_isub hx hb dX5_findSparing_125 ?_
          refine lv_topi (fun x26 ex26 => ?_)
          have ix26 : IV x26 (-48) 48 := by rw [ex26]; exact iv_sub ir21 ir22 (by decide)
          refine lv_goto (tgt := 131) hx hb dX5_findSparing_126 (by decide) ?_
          exact J131 H locs ls x26 ix26 ir21 ir22 hH hS (lv_sub hl [0, 1, 2, 3, 4, 5] rfl)
  have J104_s0_0 : ∀ (H : Heap) (locs : List Loc) (ls : Array Slot) (v104_5 : Int32) (u104_a0_11 : Int32), IV v104_5 (-2147483648) 48 → IV u104_a0_11 (-1000) 25 → th_fa D H a0 5 11 (.int u104_a0_11) → th_H D cT T (kd q) H → va_S (th_A T [7, 18, 19, 29, 34, 38]) s.heap H locs → lv_has ls 9 [(0, .ref a0), (1, .int y1), (2, .int y2), (5, .int v104_5)] → W p l e (rmk 7 183) s m [.ref a0, .int y1, .int y2].toArray below meth c H locs 0 0 (MQ below (th_Q D cT T (kd q) (th_R T none) [7, 18, 19, 29, 34, 38]) [.ref a0, .int y1, .int y2].toArray s 0 0 (th_A T [7, 18, 19, 29, 34, 38])) (F0 m 104 ls [.int 0]) := by
    intro H locs ls v104_5 u104_a0_11 iv104_5 iu104_a0_11 gu104_a0_11 hH hS hl
    refine lv_istore (lv' := [(6, .int 0), (0, .ref a0), (1, .int y1), (2, .int y2), (5, .int v104_5)]) hx hb dX5_findSparing_104 hl (by decide) rfl (fun ls hl => ?_)
    refine lv_iconst (v := 0) hx hb dX5_findSparing_106 (by decide) ?_
    refine lv_istore (lv' := [(7, .int 0), (6, .int 0), (0, .ref a0), (1, .int y1), (2, .int y2), (5, .int v104_5)]) hx hb dX5_findSparing_107 hl (by decide) rfl (fun ls hl => ?_)
    exact J109 ((63 + 1 - Int32.toInt 0).toNat + 1) H locs ls v104_5 0 0 iv104_5 (iv_w (iv_c (by decide) : IV 0 0 0) (by decide)) (iv_w (iv_c (by decide) : IV 0 0 0) (by decide)) hH hS (lv_sub hl [2, 3, 4, 5, 1, 0] rfl) (Nat.lt_succ_self _)
  have J104_s0_1 : ∀ (H : Heap) (locs : List Loc) (ls : Array Slot) (v104_5 : Int32) (u104_a0_11 : Int32), IV v104_5 (-2147483648) 48 → IV u104_a0_11 (-1000) 25 → th_fa D H a0 5 11 (.int u104_a0_11) → th_H D cT T (kd q) H → va_S (th_A T [7, 18, 19, 29, 34, 38]) s.heap H locs → lv_has ls 9 [(0, .ref a0), (1, .int y1), (2, .int y2), (5, .int v104_5)] → W p l e (rmk 7 183) s m [.ref a0, .int y1, .int y2].toArray below meth c H locs 0 0 (MQ below (th_Q D cT T (kd q) (th_R T none) [7, 18, 19, 29, 34, 38]) [.ref a0, .int y1, .int y2].toArray s 0 0 (th_A T [7, 18, 19, 29, 34, 38])) (F0 m 104 ls [.int 1]) := by
    intro H locs ls v104_5 u104_a0_11 iv104_5 iu104_a0_11 gu104_a0_11 hH hS hl
    refine lv_istore (lv' := [(6, .int 1), (0, .ref a0), (1, .int y1), (2, .int y2), (5, .int v104_5)]) hx hb dX5_findSparing_104 hl (by decide) rfl (fun ls hl => ?_)
    refine lv_iconst (v := 0) hx hb dX5_findSparing_106 (by decide) ?_
    refine lv_istore (lv' := [(7, .int 0), (6, .int 1), (0, .ref a0), (1, .int y1), (2, .int y2), (5, .int v104_5)]) hx hb dX5_findSparing_107 hl (by decide) rfl (fun ls hl => ?_)
    exact J109 ((63 + 1 - Int32.toInt 0).toNat + 1) H locs ls v104_5 1 0 iv104_5 (iv_w (iv_c (by decide) : IV 1 1 1) (by decide)) (iv_w (iv_c (by decide) : IV 0 0 0) (by decide)) hH hS (lv_sub hl [2, 3, 4, 5, 1, 0] rfl) (Nat.lt_succ_self _)
  have J0 : ∀ (H : Heap) (locs : List Loc) (ls : Array Slot), th_H D cT T (kd q) H → va_S (th_A T [7, 18, 19, 29, 34, 38]) s.heap H locs → lv_has ls 9 [(0, .ref a0), (1, .int y1), (2, .int y2)] → W p l e (rmk 7 183) s m [.ref a0, .int y1, .int y2].toArray below meth c H locs 0 0 (MQ below (th_Q D cT T (kd q) (th_R T none) [7, 18, 19, 29, 34, 38]) [.ref a0, .int y1, .int y2].toArray s 0 0 (th_A T [7, 18, 19, 29, 34, 38])) (F0 m 0 ls []) := by
    intro H locs ls hH hS hl
    refine lv_aload_n hx hb dX5_findSparing_0 rfl (lv_at hl 0 rfl) ?_
    refine th_get S hK hH inG5 t0 kd_7 rfl 11 (by decide) gm_440 rfl rfl dX5_findSparing_1 (fun v27 hv27 fv27 => ?_)
    obtain ⟨x28, rfl, ix28⟩ := th_V.int hv27
    have ix28 : IV x28 (-1000) 25 := iv_w ix28 ⟨hpt, by decide⟩
    refine lv_iconst (v := 1) hx hb dX5_findSparing_4 (by decide) ?_
    refine lv_isub hx hb dX5_findSparing_5 ?_
    refine lv_topi (fun x29 ex29 => ?_)
    have ix29 : IV x29 (-1001) 24 := by rw [ex29]; exact iv_sub ix28 (iv_c (by decide) : IV 1 1 1) (by decide)
    refine lv_iload_n hx hb dX5_findSparing_6 rfl (lv_at hl 2 rfl) ?_
    refine lv_isub hx hb dX5_findSparing_7 ?_
    refine lv_topi (fun x30 ex30 => ?_)
    have ix30 : IV x30 (-1025) 48 := by rw [ex30]; exact iv_sub ix29 j2 (by decide)
    refine lv_istore_n (lv' := [(3, .int x30), (0, .ref a0), (1, .int y1), (2, .int y2)]) hx hb dX5_findSparing_8 rfl hl (by decide) rfl (fun ls hl => ?_)
    refine lv_aload_n hx hb dX5_findSparing_9 rfl (lv_at hl 1 rfl) ?_
    refine th_get S hK hH inG5 t0 kd_7 rfl 0 (by decide) gm_427 rfl rfl dX5_findSparing_10 (fun v31 hv31 fv31 => ?_)
    obtain ⟨rf32, rfl, trf32⟩ := th_V.ref hv31
    refine lv_aload_n hx hb dX5_findSparing_13 rfl (lv_at hl 1 rfl) ?_
    refine th_get S hK hH inG5 t0 kd_7 rfl 3 (by decide) gm_432 rfl rfl dX5_findSparing_14 (fun v33 hv33 fv33 => ?_)
    obtain ⟨rf34, rfl, trf34⟩ := th_V.ref hv33
    refine lv_iconst (v := 0) hx hb dX5_findSparing_17 (by decide) ?_
    refine th_aald S hK hH trf34 kd_32 (th_in (hi := 0) (iv_c (by decide) : IV 0 0 0) (by decide)) dX5_findSparing_18 (fun v35 hv35 => ?_)
    obtain ⟨rf36, rfl, trf36⟩ := th_V.ref hv35
    refine lv_aload_n hx hb dX5_findSparing_19 rfl (lv_at hl 1 rfl) ?_
    refine th_getK S hK fv33 inG5 rfl (by decide) gm_432 rfl dX5_findSparing_20 ?_
    refine lv_iload_n hx hb dX5_findSparing_23 rfl (lv_at hl 2 rfl) ?_
    refine th_aald S hK hH trf34 kd_32 (th_in (hi := 1) (iv_w j1 (by decide)) (by decide)) dX5_findSparing_24 (fun v38 hv38 => ?_)
    obtain ⟨rf39, rfl, trf39⟩ := th_V.ref hv38
    refine th_callVi (n := 2) (As := [.ref rf36, .ref rf39]) S hK hH hS (th_A.sub (by decide)) (m_X0_smaller l D cT T q hq rf32 trf32 rf36 trf36 rf39 trf39) gm_937 gm_1044 gm_935 gm_936 gm_119 (by decide +kernel) ⟨rfl, rfl, Nat.le_of_ble_eq_true rfl, Nat.le_of_ble_eq_true rfl⟩ trf32 kd_4 rfl rfl hl.1 rfl (Nat.le_of_ble_eq_true rfl) dX5_findSparing_25 ⟨Nat.zero_le _, Nat.zero_le _⟩ (fun x40 H locs ix40 hH hS hF1 => ?_)
    have f41 := fv27.kept (hF1 _ fv27.lt (th_off t0 (by decide)))
    have f42 := fv31.kept (hF1 _ fv31.lt (th_off t0 (by decide)))
    have f43 := fv33.kept (hF1 _ fv33.lt (th_off t0 (by decide)))
    refine lv_aload_n hx hb dX5_findSparing_28 rfl (lv_at hl 1 rfl) ?_
    refine th_get S hK hH inG5 t0 kd_7 rfl 10 (by decide) gm_439 rfl rfl dX5_findSparing_29 (fun v44 hv44 fv44 => ?_)
    obtain ⟨x45, rfl, ix45⟩ := th_V.int hv44
    refine lv_iand hx hb dX5_findSparing_32 ?_
    refine lv_topi (fun x46 ex46 => ?_)
    have ix46 := iv_top x46
    refine lv_istore (lv' := [(4, .int x46), (3, .int x30), (0, .ref a0), (1, .int y1), (2, .int y2)]) hx hb dX5_findSparing_33 hl (by decide) rfl (fun ls hl => ?_)
    refine lv_aload_n hx hb dX5_findSparing_35 rfl (lv_at hl 2 rfl) ?_
    refine lv_iload hx hb dX5_findSparing_36 (lv_at hl 0 rfl) ?_
    refine lv_iload_n hx hb dX5_findSparing_38 rfl (lv_at hl 3 rfl) ?_
    refine lv_iload_n hx hb dX5_findSparing_39 rfl (lv_at hl 1 rfl) ?_
    refine th_callVi (n := 3) (As := [.int x46, .int y1, .int x30]) S hK hH hS (th_A.sub (by decide)) (m_X5_canMend l D cT T q hq a0 t0 (x46) ix46 (y1) (iv_w j1 (by decide)) (x30) (iv_top _)) gm_1048 gm_1045 gm_1047 gm_33 gm_122 (by decide +kernel) ⟨rfl, rfl, Nat.le_of_ble_eq_true rfl, Nat.le_of_ble_eq_true rfl⟩ t0 kd_7 rfl rfl hl.1 rfl (Nat.le_of_ble_eq_true rfl) dX5_findSparing_40 ⟨Nat.zero_le _, Nat.zero_le _⟩ (fun x47 H locs ix47 hH hS hF1 => ?_)
    have f48 := f41.kept (hF1 _ f41.lt (th_off t0 (by decide)))
    have f49 := f42.kept (hF1 _ f42.lt (th_off t0 (by decide)))
    have f50 := f43.kept (hF1 _ f43.lt (th_off t0 (by decide)))
    refine lv_if_ne (tgt := 47) hx hb dX5_findSparing_43 (by decide) (fun c51 => ?_) (fun c51 => ?_)
    · skip
      have ir52 : IV x47 1 1 := iv_cutL ix47 (iv_c (by decide) : IV 0 0 0) c51 (by decide)
      refine lv_iload_n hx hb dX5_findSparing_47 rfl (lv_at hl 3 rfl) ?_
      refine lv_aload_n hx hb dX5_findSparing_48 rfl (lv_at hl 2 rfl) ?_
      refine th_getK S hK f49 inG5 rfl (by decide) gm_427 rfl dX5_findSparing_49 ?_
      refine th_get S hK hH inG0 trf32 kd_4 rfl 0 (by decide) gm_370 rfl rfl dX5_findSparing_52 (fun v54 hv54 fv54 => ?_)
      obtain ⟨rf55, rfl, trf55⟩ := th_V.ref hv54
      refine th_get S hK hH inG4 trf55 kd_3 rfl 12 (by decide) gm_281 rfl rfl dX5_findSparing_55 (fun v56 hv56 fv56 => ?_)
      obtain ⟨x57, rfl, ix57⟩ := th_V.int hv56
      refine lv_icmp_lt (tgt := 71) hx hb dX5_findSparing_58 (by decide) (fun c58 => ?_) (fun c58 => ?_)
      · skip
        have ir59 : IV x57 2 4 := iv_uR j1 ix57 (iv_lt c58) (by decide)
        refine lv_iload_n hx hb dX5_findSparing_71 rfl (lv_at hl 1 rfl) ?_
        refine lv_aload_n hx hb dX5_findSparing_72 rfl (lv_at hl 2 rfl) ?_
        refine th_get S hK hH inG5 t0 kd_7 rfl 5 (by decide) gm_434 rfl rfl dX5_findSparing_73 (fun v60 hv60 fv60 => ?_)
        obtain ⟨rf61, rfl, trf61⟩ := th_V.ref hv60
        refine lv_iload_n hx hb dX5_findSparing_76 rfl (lv_at hl 3 rfl) ?_
        refine th_iald S hK hH trf61 kd_36 (th_in (hi := 1) (iv_w j1 (by decide)) (by decide)) dX5_findSparing_77 (fun v62 hv62 => ?_)
        obtain ⟨x63, rfl, ix63⟩ := th_V.int hv62
        refine va_mmin hx hb (S.2.2.1.trans hl.1.symm) S.2.2.2.1 (S.2.2.2.2 _ gm_1039) (S.2.2.2.2 _ gm_649) (S.2.2.2.2 _ gm_129) (S.2.2.2.2 _ gm_650) (Nat.le_of_ble_eq_true rfl) (Nat.le_of_ble_eq_true rfl) (Nat.zero_le _) (Nat.zero_le _) dX5_findSparing_78 ?_
        refine lv_topi (fun x64 ex64 => ?_)
        have ix64 : IV x64 (-2147483648) 48 := by rw [ex64]; exact iv_min ix30 ix63 (by decide)
        refine lv_istore (lv' := [(5, .int x64), (4, .int x46), (3, .int x30), (0, .ref a0), (1, .int y1), (2, .int y2)]) hx hb dX5_findSparing_81 hl (by decide) rfl (fun ls hl => ?_)
        refine lv_iload_n hx hb dX5_findSparing_83 rfl (lv_at hl 4 rfl) ?_
        refine lv_aload_n hx hb dX5_findSparing_84 rfl (lv_at hl 3 rfl) ?_
        refine th_getK S hK f49 inG5 rfl (by decide) gm_427 rfl dX5_findSparing_85 ?_
        refine th_getK S hK fv54 inG0 rfl (by decide) gm_370 rfl dX5_findSparing_88 ?_
        refine th_getK S hK fv56 inG4 rfl (by decide) gm_281 rfl dX5_findSparing_91 ?_
        refine lv_iconst (v := 1) hx hb dX5_findSparing_94 (by decide) ?_
        refine lv_isub hx hb dX5_findSparing_95 ?_
        refine lv_topi (fun x68 ex68 => ?_)
        have ix68 : IV x68 1 3 := by rw [ex68]; exact iv_sub ir59 (iv_c (by decide) : IV 1 1 1) (by decide)
        refine lv_icmp_ne (tgt := 103) hx hb dX5_findSparing_96 (by decide) (fun c69 => ?_) (fun c69 => ?_)
        · skip
          refine lv_iconst (v := 0) hx hb dX5_findSparing_103 (by decide) ?_
          exact J104_s0_0 H locs ls x64 x28 ix64 ix28 f48 hH hS (lv_sub hl [3, 4, 5, 0] rfl)
        · skip
          have ir70 : IV x68 1 1 := iv_eR c69 j1
          refine lv_iconst (v := 1) hx hb dX5_findSparing_99 (by decide) ?_
          refine lv_goto (tgt := 104) hx hb dX5_findSparing_100 (by decide) ?_
          exact J104_s0_1 H locs ls x64 x28 ix64 ix28 f48 hH hS (lv_sub hl [3, 4, 5, 0] rfl)
      · skip
        have ir71 : IV x57 0 1 := iv_vL ix57 j1 (iv_nlt c58) (by decide)
        refine lv_aload_n hx hb dX5_findSparing_61 rfl (lv_at hl 2 rfl) ?_
        refine lv_iload_n hx hb dX5_findSparing_62 rfl (lv_at hl 4 rfl) ?_
        refine th_put S hK hH hS ⟨7, by decide, t0⟩ inG5 tyX5 tyX5_ok nmX5 t0 kd_7 rfl 11 (by decide) gm_440 rfl rfl rfl rfl (th_iv (iv_w (iv_w j2 (by decide) : IV y2 (-1000) 25) ⟨(qok_6 hq).2, by decide⟩)) (fun _ _ => trivial) (ty := .int) (by decide +kernel) rfl rfl dX5_findSparing_63 (fun H locs hH hS hq1 hp1 => ?_)
        have f72 := hp1.2 0 _ (by decide) (by decide) f49
        have f73 := hp1.2 3 _ (by decide) (by decide) f50
        have f74 := fv54.kept (hq1 _ (th_ne trf32 t0 (by decide)))
        have f75 := fv56.kept (hq1 _ (th_ne trf55 t0 (by decide)))
        have f76 := hp1.1
        refine lv_aload_n hx hb dX5_findSparing_66 rfl (lv_at hl 2 rfl) ?_
        refine th_callVv (n := 0) (As := []) S hK hH hS (th_A.sub (by decide)) (m_X5_layWay l D cT T q hq a0 t0) gm_1053 gm_1050 gm_1052 gm_34 gm_122 (by decide +kernel) ⟨rfl, rfl, Nat.le_of_ble_eq_true rfl, Nat.le_of_ble_eq_true rfl⟩ t0 kd_7 rfl rfl hl.1 rfl (Nat.le_of_ble_eq_true rfl) dX5_findSparing_67 ⟨Nat.zero_le _, Nat.zero_le _⟩ (fun H locs hH hS hF1 => ?_)
        have f77 := f74.kept (hF1 _ f74.lt (th_off trf32 (by decide)))
        have f78 := f75.kept (hF1 _ f75.lt (th_off trf55 (by decide)))
        exact th_vret S hK hH hS hr hlocks rfl dX5_findSparing_70
    · skip
      have ir79 : IV x47 0 0 := iv_eL c51 (iv_c (by decide) : IV 0 0 0)
      exact th_vret S hK hH hS hr hlocks rfl dX5_findSparing_46
  exact J0 s.heap [] ls hH va_S.rf hl

set_option maxRecDepth 100000 in
theorem m_X5_findSparing_v4 (l : Launch) (D : va_G) (cT : Nat → ClassId) (T : Nat → Option Nat) (q : Nat → Int) (hq : qok q) (hT : tok T) (a0 : Nat) (t0 : T a0 = some 7) (y1 : Int32) (j1 : IV y1 0 0) (y2 : Int32) (j2 : IV y2 0 0) : th_Met l D cT T (kd q) yX5_findSparing cX5_findSparing 9 none (rmk 8 211) [.ref a0, .int y1, .int y2] (th_R T none) [7, 18, 19, 29, 34, 38] := by
  refine th_start (by decide) (Nat.le_of_ble_eq_true rfl) ?_
  intro p e s m below meth c ls S hK hH hr hlocks hnm hl
  have hx := S.1
  have hb := S.2.1
  have hl : lv_has ls 9 [(0, .ref a0), (1, .int y1), (2, .int y2)] := hl
  have J109 : ∀ (n : Nat) (H : Heap) (locs : List Loc) (ls : Array Slot) (v109_5 : Int32) (v109_6 : Int32) (v109_7 : Int32), IV v109_5 (-2147483648) 24 → IV v109_6 0 1 → IV v109_7 0 29 → th_H D cT T (kd q) H → va_S (th_A T [7, 18, 19, 29, 34, 38]) s.heap H locs → lv_has ls 9 [(0, .ref a0), (1, .int y1), (2, .int y2), (5, .int v109_5), (6, .int v109_6), (7, .int v109_7)] → (29 + 1 - v109_7.toInt).toNat < n → W p l e (rmk 8 211) s m [.ref a0, .int y1, .int y2].toArray below meth c H locs 0 0 (MQ below (th_Q D cT T (kd q) (th_R T none) [7, 18, 19, 29, 34, 38]) [.ref a0, .int y1, .int y2].toArray s 0 0 (th_A T [7, 18, 19, 29, 34, 38])) (F0 m 109 ls []) := by
    intro n
    induction n with
    | zero => intro H locs ls v109_5 v109_6 v109_7 iv109_5 iv109_6 iv109_7 hH hS hl hn; exact absurd hn (Nat.not_lt_zero _)
    | succ n ih109 =>
      intro H locs ls v109_5 v109_6 v109_7 iv109_5 iv109_6 iv109_7 hH hS hl hn109
      have J180 : ∀ (H : Heap) (locs : List Loc) (ls : Array Slot), IV v109_5 0 24 → IV v109_7 0 24 → th_H D cT T (kd q) H → va_S (th_A T [7, 18, 19, 29, 34, 38]) s.heap H locs → lv_has ls 9 [(0, .ref a0), (1, .int y1), (2, .int y2), (5, .int v109_5), (6, .int v109_6), (7, .int v109_7)] → W p l e (rmk 8 211) s m [.ref a0, .int y1, .int y2].toArray below meth c H locs 0 0 (MQ below (th_Q D cT T (kd q) (th_R T none) [7, 18, 19, 29, 34, 38]) [.ref a0, .int y1, .int y2].toArray s 0 0 (th_A T [7, 18, 19, 29, 34, 38])) (F0 m 180 ls []) := by
        intro H locs ls f180_v109_5 f180_v109_7 hH hS hl
        refine th_iinc S dX5_findSparing_180 hl (k := 5) rfl (by decide) f180_v109_7 (by decide) (fun x1 ls ex1 ix1 hl => ?_)
        have hl : lv_has ls 9 [(7, .int x1), (0, .ref a0), (1, .int y1), (2, .int y2), (5, .int v109_5), (6, .int v109_6)] := hl
        have ix1 : IV x1 1 25 := ix1
        refine lv_goto (tgt := 109) hx hb dX5_findSparing_183 (by decide) ?_
        exact ih109 H locs ls v109_5 v109_6 x1 (iv_w f180_v109_5 (by decide)) iv109_6 (iv_w ix1 (by decide)) hH hS (lv_sub hl [1, 2, 3, 4, 5, 0] rfl) (th_up iv109_7 ex1 (by decide) hn109)
      have J131 : ∀ (H : Heap) (locs : List Loc) (ls : Array Slot) (w131_0 : Int32), IV w131_0 (-24) 24 → IV v109_5 0 24 → IV v109_7 0 24 → th_H D cT T (kd q) H → va_S (th_A T [7, 18, 19, 29, 34, 38]) s.heap H locs → lv_has ls 9 [(0, .ref a0), (1, .int y1), (2, .int y2), (5, .int v109_5), (6, .int v109_6), (7, .int v109_7)] → W p l e (rmk 8 211) s m [.ref a0, .int y1, .int y2].toArray below meth c H locs 0 0 (MQ below (th_Q D cT T (kd q) (th_R T none) [7, 18, 19, 29, 34, 38]) [.ref a0, .int y1, .int y2].toArray s 0 0 (th_A T [7, 18, 19, 29, 34, 38])) (F0 m 131 ls [.int w131_0]) := by
        intro H locs ls w131_0 iw131_0 f131_v109_5 f131_v109_7 hH hS hl
        refine lv_istore (lv' := [(8, .int w131_0), (0, .ref a0), (1, .int y1), (2, .int y2), (5, .int v109_5), (6, .int v109_6), (7, .int v109_7)]) hx hb dX5_findSparing_131 hl (by decide) rfl (fun ls hl => ?_)
        refine lv_iload_n hx hb dX5_findSparing_133 rfl (lv_at hl 3 rfl) ?_
        refine lv_iload hx hb dX5_findSparing_134 (lv_at hl 0 rfl) ?_
        refine lv_iadd hx hb dX5_findSparing_136 ?_
        refine lv_topi (fun x2 ex2 => ?_)
        have ix2 : IV x2 (-24) 24 := by rw [ex2]; exact iv_add j2 iw131_0 (by decide)
        refine lv_aload_n hx hb dX5_findSparing_137 rfl (lv_at hl 1 rfl) ?_
        refine th_get S hK hH inG5 t0 kd_7 rfl 11 (by decide) gm_440 rfl rfl dX5_findSparing_138 (fun v3 hv3 fv3 => ?_)
        obtain ⟨x4, rfl, ix4⟩ := th_V.int hv3
        have ix4 : IV x4 (-2147483647) 25 := iv_w ix4 ⟨(qok_6 hq).1, by decide⟩
        refine lv_icmp_lt (tgt := 145) hx hb dX5_findSparing_141 (by decide) (fun c5 => ?_) (fun c5 => ?_)
        · skip
          have ir6 : IV x4 (-23) 25 := iv_uR ix2 ix4 (iv_lt c5) (by decide)
          refine lv_aload_n hx hb dX5_findSparing_145 rfl (lv_at hl 1 rfl) ?_
          refine lv_iload_n hx hb dX5_findSparing_146 rfl (lv_at hl 2 rfl) ?_
          refine lv_iload hx hb dX5_findSparing_147 (lv_at hl 0 rfl) ?_
          refine th_callVv (n := 2) (As := [.int y1, .int w131_0]) S hK hH hS (th_A.sub (by decide)) (m_X5_serve l D cT T q hq a0 t0 (y1) (iv_w j1 (by decide)) (w131_0) (iv_top _)) gm_1058 gm_1055 gm_1057 gm_35 gm_122 (by decide +kernel) ⟨rfl, rfl, Nat.le_of_ble_eq_true rfl, Nat.le_of_ble_eq_true rfl⟩ t0 kd_7 rfl rfl hl.1 rfl (Nat.le_of_ble_eq_true rfl) dX5_findSparing_149 ⟨Nat.zero_le _, Nat.zero_le _⟩ (fun H locs hH hS hF1 => ?_)
          have f7 := fv3.kept (hF1 _ fv3.lt (th_off t0 (by decide)))
          refine lv_aload_n hx hb dX5_findSparing_152 rfl (lv_at hl 1 rfl) ?_
          refine lv_iload_n hx hb dX5_findSparing_153 rfl (lv_at hl 2 rfl) ?_
          refine lv_iconst (v := 1) hx hb dX5_findSparing_154 (by decide) ?_
          refine lv_iadd hx hb dX5_findSparing_155 ?_
          refine lv_topi (fun x8 ex8 => ?_)
          have ix8 : IV x8 1 1 := by rw [ex8]; exact iv_add j1 (iv_c (by decide) : IV 1 1 1) (by decide)
          refine lv_iload_n hx hb dX5_findSparing_156 rfl (lv_at hl 3 rfl) ?_
          refine lv_iload hx hb dX5_findSparing_157 (lv_at hl 0 rfl) ?_
          refine lv_iadd hx hb dX5_findSparing_159 ?_
          refine lv_topi (fun x9 ex9 => ?_)
          have zx9 : x2 = x9 := ex2.trans ex9.symm
          subst zx9
          have hH := th_tight hH (fun b hb => hT 7 (by decide) _ _ hb t0) t0 f7 (Int.le_trans (by decide) (ir6).1)
          refine th_callVv (n := 2) (As := [.int x8, .int x2]) S hK hH hS (th_A.sub (by decide)) (m_X5_findSparing_v3 l D cT T (qup q 6 (-1000)) (qup_ok6 hq (by decide)) (Int.le_refl _) a0 t0 (x8) ix8 (x2) ix2) gm_1043 gm_1040 gm_1042 gm_32 gm_122 (by decide +kernel) ⟨rfl, rfl, Nat.le_of_ble_eq_true rfl, Nat.le_of_ble_eq_true rfl⟩ t0 kd_7 rfl rfl hl.1 rfl (Nat.le_of_ble_eq_true rfl) dX5_findSparing_160 ⟨Nat.zero_le _, Nat.zero_le _⟩ (fun H locs hH hS hF1 => ?_)
          have hH := th_loose hH (qok_6 hq).2
          refine lv_iload hx hb dX5_findSparing_163 (lv_at hl 5 rfl) ?_
          refine lv_if_eq (tgt := 180) hx hb dX5_findSparing_165 (by decide) (fun c10 => ?_) (fun c10 => ?_)
          · skip
            have ir11 : IV v109_6 0 0 := iv_eL c10 (iv_c (by decide) : IV 0 0 0)
            exact J180 H locs ls f131_v109_5 f131_v109_7 hH hS (lv_sub hl [1, 2, 3, 4, 5, 6] rfl)
          · skip
            have ir12 : IV v109_6 1 1 := iv_cutL iv109_6 (iv_c (by decide) : IV 0 0 0) c10 (by decide)
            refine lv_aload_n hx hb dX5_findSparing_168 rfl (lv_at hl 1 rfl) ?_
            refine th_get S hK hH inG5 t0 kd_7 rfl 11 (by decide) gm_440 rfl rfl dX5_findSparing_169 (fun v13 hv13 fv13 => ?_)
            obtain ⟨x14, rfl, ix14⟩ := th_V.int hv13
            have ix14 : IV x14 (-2147483647) 25 := iv_w ix14 ⟨(qok_6 hq).1, by decide⟩
            refine lv_iload_n hx hb dX5_findSparing_172 rfl (lv_at hl 3 rfl) ?_
            refine lv_iload hx hb dX5_findSparing_173 (lv_at hl 0 rfl) ?_
            refine lv_iadd hx hb dX5_findSparing_175 ?_
            refine lv_topi (fun x15 ex15 => ?_)
            have zx15 : x2 = x15 := ex2.trans ex15.symm
            subst zx15
            refine lv_icmp_le (tgt := 180) hx hb dX5_findSparing_176 (by decide) (fun c16 => ?_) (fun c16 => ?_)
            · skip
              have ir17 : IV x14 (-2147483647) 24 := iv_vL ix14 ix2 (iv_le c16) (by decide)
              exact J180 H locs ls f131_v109_5 f131_v109_7 hH hS (lv_sub hl [1, 2, 3, 4, 5, 6] rfl)
            · skip
              have ir18 : IV x14 (-23) 25 := iv_uR ix2 ix14 (iv_nle c16) (by decide)
              exact th_vret S hK hH hS hr hlocks rfl dX5_findSparing_179
        · skip
          have ir19 : IV x4 (-2147483647) 24 := iv_vL ix4 ix2 (iv_nlt c5) (by decide)
          exact th_vret S hK hH hS hr hlocks rfl dX5_findSparing_144
      refine lv_iload hx hb dX5_findSparing_109 (lv_at hl 5 rfl) ?_
      refine lv_iload hx hb dX5_findSparing_111 (lv_at hl 3 rfl) ?_
      refine lv_icmp_gt (tgt := 186) hx hb dX5_findSparing_113 (by decide) (fun c20 => ?_) (fun c20 => ?_)
      · skip
        exact th_vret S hK hH hS hr hlocks rfl dX5_findSparing_186
      · skip
        have ir21 : IV v109_5 0 24 := iv_vR iv109_7 iv109_5 (iv_nlt c20) (by decide)
        have ir22 : IV v109_7 0 24 := iv_vL iv109_7 iv109_5 (iv_nlt c20) (by decide)
        refine lv_iload hx hb dX5_findSparing_116 (lv_at hl 4 rfl) ?_
        refine lv_if_eq (tgt := 129) hx hb dX5_findSparing_118 (by decide) (fun c23 => ?_) (fun c23 => ?_)
        · skip
          have ir24 : IV v109_6 0 0 := iv_eL c23 (iv_c (by decide) : IV 0 0 0)
          refine lv_iload hx hb dX5_findSparing_129 (lv_at hl 5 rfl) ?_
          exact J131 H locs ls v109_7 (iv_w ir22 (by decide)) ir21 ir22 hH hS (lv_sub hl [0, 1, 2, 3, 4, 5] rfl)
        · skip
          have ir25 : IV v109_6 1 1 := iv_cutL iv109_6 (iv_c (by decide) : IV 0 0 0) c23 (by decide)
          refine lv_iload hx hb dX5_findSparing_121 (lv_at hl 3 rfl) ?_
          refine lv_iload hx hb dX5_findSparing_123 (lv_at hl 5 rfl) ?_
          refine lv_isub hx hb dX5_findSparing_125 ?_
          refine lv_topi (fun x26 ex26 => ?_)
          have ix26 : IV x26 (-24) 24 := by rw [ex26]; exact iv_sub ir21 ir22 (by decide)
          refine lv_goto (tgt := 131) hx hb dX5_findSparing_126 (by decide) ?_
          exact J131 H locs ls x26 ix26 ir21 ir22 hH hS (lv_sub hl [0, 1, 2, 3, 4, 5] rfl)
  have J104_s0_0 : ∀ (H : Heap) (locs : List Loc) (ls : Array Slot) (v104_5 : Int32) (u104_a0_11 : Int32), IV v104_5 (-2147483648) 24 → IV u104_a0_11 (-2147483647) 25 → th_fa D H a0 5 11 (.int u104_a0_11) → th_H D cT T (kd q) H → va_S (th_A T [7, 18, 19, 29, 34, 38]) s.heap H locs → lv_has ls 9 [(0, .ref a0), (1, .int y1), (2, .int y2), (5, .int v104_5)] → W p l e (rmk 8 211) s m [.ref a0, .int y1, .int y2].toArray below meth c H locs 0 0 (MQ below (th_Q D cT T (kd q) (th_R T none) [7, 18, 19, 29, 34, 38]) [.ref a0, .int y1, .int y2].toArray s 0 0 (th_A T [7, 18, 19, 29, 34, 38])) (F0 m 104 ls [.int 0]) := by
    intro H locs ls v104_5 u104_a0_11 iv104_5 iu104_a0_11 gu104_a0_11 hH hS hl
    refine lv_istore (lv' := [(6, .int 0), (0, .ref a0), (1, .int y1), (2, .int y2), (5, .int v104_5)]) hx hb dX5_findSparing_104 hl (by decide) rfl (fun ls hl => ?_)
    refine lv_iconst (v := 0) hx hb dX5_findSparing_106 (by decide) ?_
    refine lv_istore (lv' := [(7, .int 0), (6, .int 0), (0, .ref a0), (1, .int y1), (2, .int y2), (5, .int v104_5)]) hx hb dX5_findSparing_107 hl (by decide) rfl (fun ls hl => ?_)
    exact J109 ((29 + 1 - Int32.toInt 0).toNat + 1) H locs ls v104_5 0 0 iv104_5 (iv_w (iv_c (by decide) : IV 0 0 0) (by decide)) (iv_w (iv_c (by decide) : IV 0 0 0) (by decide)) hH hS (lv_sub hl [2, 3, 4, 5, 1, 0] rfl) (Nat.lt_succ_self _)
  have J104_s0_1 : ∀ (H : Heap) (locs : List Loc) (ls : Array Slot) (v104_5 : Int32) (u104_a0_11 : Int32), IV v104_5 (-2147483648) 24 → IV u104_a0_11 (-2147483647) 25 → th_fa D H a0 5 11 (.int u104_a0_11) → th_H D cT T (kd q) H → va_S (th_A T [7, 18, 19, 29, 34, 38]) s.heap H locs → lv_has ls 9 [(0, .ref a0), (1, .int y1), (2, .int y2), (5, .int v104_5)] → W p l e (rmk 8 211) s m [.ref a0, .int y1, .int y2].toArray below meth c H locs 0 0 (MQ below (th_Q D cT T (kd q) (th_R T none) [7, 18, 19, 29, 34, 38]) [.ref a0, .int y1, .int y2].toArray s 0 0 (th_A T [7, 18, 19, 29, 34, 38])) (F0 m 104 ls [.int 1]) := by
    intro H locs ls v104_5 u104_a0_11 iv104_5 iu104_a0_11 gu104_a0_11 hH hS hl
    refine lv_istore (lv' := [(6, .int 1), (0, .ref a0), (1, .int y1), (2, .int y2), (5, .int v104_5)]) hx hb dX5_findSparing_104 hl (by decide) rfl (fun ls hl => ?_)
    refine lv_iconst (v := 0) hx hb dX5_findSparing_106 (by decide) ?_
    refine lv_istore (lv' := [(7, .int 0), (6, .int 1), (0, .ref a0), (1, .int y1), (2, .int y2), (5, .int v104_5)]) hx hb dX5_findSparing_107 hl (by decide) rfl (fun ls hl => ?_)
    exact J109 ((29 + 1 - Int32.toInt 0).toNat + 1) H locs ls v104_5 1 0 iv104_5 (iv_w (iv_c (by decide) : IV 1 1 1) (by decide)) (iv_w (iv_c (by decide) : IV 0 0 0) (by decide)) hH hS (lv_sub hl [2, 3, 4, 5, 1, 0] rfl) (Nat.lt_succ_self _)
  have J0 : ∀ (H : Heap) (locs : List Loc) (ls : Array Slot), th_H D cT T (kd q) H → va_S (th_A T [7, 18, 19, 29, 34, 38]) s.heap H locs → lv_has ls 9 [(0, .ref a0), (1, .int y1), (2, .int y2)] → W p l e (rmk 8 211) s m [.ref a0, .int y1, .int y2].toArray below meth c H locs 0 0 (MQ below (th_Q D cT T (kd q) (th_R T none) [7, 18, 19, 29, 34, 38]) [.ref a0, .int y1, .int y2].toArray s 0 0 (th_A T [7, 18, 19, 29, 34, 38])) (F0 m 0 ls []) := by
    intro H locs ls hH hS hl
    refine lv_aload_n hx hb dX5_findSparing_0 rfl (lv_at hl 0 rfl) ?_
    refine th_get S hK hH inG5 t0 kd_7 rfl 11 (by decide) gm_440 rfl rfl dX5_findSparing_1 (fun v27 hv27 fv27 => ?_)
    obtain ⟨x28, rfl, ix28⟩ := th_V.int hv27
    have ix28 : IV x28 (-2147483647) 25 := iv_w ix28 ⟨(qok_6 hq).1, by decide⟩
    refine lv_iconst (v := 1) hx hb dX5_findSparing_4 (by decide) ?_
    refine lv_isub hx hb dX5_findSparing_5 ?_
    refine lv_topi (fun x29 ex29 => ?_)
    have ix29 : IV x29 (-2147483648) 24 := by rw [ex29]; exact iv_sub ix28 (iv_c (by decide) : IV 1 1 1) (by decide)
    refine lv_iload_n hx hb dX5_findSparing_6 rfl (lv_at hl 2 rfl) ?_
    refine lv_isub hx hb dX5_findSparing_7 ?_
    refine lv_topi (fun x30 ex30 => ?_)
    have ix30 : IV x30 (-2147483648) 24 := by rw [ex30]; exact iv_sub ix29 j2 (by decide)
    refine lv_istore_n (lv' := [(3, .int x30), (0, .ref a0), (1, .int y1), (2, .int y2)]) hx hb dX5_findSparing_8 rfl hl (by decide) rfl (fun ls hl => ?_)
    refine lv_aload_n hx hb dX5_findSparing_9 rfl (lv_at hl 1 rfl) ?_
    refine th_get S hK hH inG5 t0 kd_7 rfl 0 (by decide) gm_427 rfl rfl dX5_findSparing_10 (fun v31 hv31 fv31 => ?_)
    obtain ⟨rf32, rfl, trf32⟩ := th_V.ref hv31
    refine lv_aload_n hx hb dX5_findSparing_13 rfl (lv_at hl 1 rfl) ?_
    refine th_get S hK hH inG5 t0 kd_7 rfl 3 (by decide) gm_432 rfl rfl dX5_findSparing_14 (fun v33 hv33 fv33 => ?_)
    obtain ⟨rf34, rfl, trf34⟩ := th_V.ref hv33
    refine lv_iconst (v := 0) hx hb dX5_findSparing_17 (by decide) ?_
    refine th_aald S hK hH trf34 kd_32 (th_in (hi := 0) (iv_c (by decide) : IV 0 0 0) (by decide)) dX5_findSparing_18 (fun v35 hv35 => ?_)
    obtain ⟨rf36, rfl, trf36⟩ := th_V.ref hv35
    refine lv_aload_n hx hb dX5_findSparing_19 rfl (lv_at hl 1 rfl) ?_
    refine th_getK S hK fv33 inG5 rfl (by decide) gm_432 rfl dX5_findSparing_20 ?_
    refine lv_iload_n hx hb dX5_findSparing_23 rfl (lv_at hl 2 rfl) ?_
    refine th_aald S hK hH trf34 kd_32 (th_in (hi := 0) j1 (by decide)) dX5_findSparing_24 (fun v38 hv38 => ?_)
    obtain ⟨rf39, rfl, trf39⟩ := th_V.ref hv38
    refine th_callVi (n := 2) (As := [.ref rf36, .ref rf39]) S hK hH hS (th_A.sub (by decide)) (m_X0_smaller l D cT T q hq rf32 trf32 rf36 trf36 rf39 trf39) gm_937 gm_1044 gm_935 gm_936 gm_119 (by decide +kernel) ⟨rfl, rfl, Nat.le_of_ble_eq_true rfl, Nat.le_of_ble_eq_true rfl⟩ trf32 kd_4 rfl rfl hl.1 rfl (Nat.le_of_ble_eq_true rfl) dX5_findSparing_25 ⟨Nat.zero_le _, Nat.zero_le _⟩ (fun x40 H locs ix40 hH hS hF1 => ?_)
    have f41 := fv27.kept (hF1 _ fv27.lt (th_off t0 (by decide)))
    have f42 := fv31.kept (hF1 _ fv31.lt (th_off t0 (by decide)))
    have f43 := fv33.kept (hF1 _ fv33.lt (th_off t0 (by decide)))
    refine lv_aload_n hx hb dX5_findSparing_28 rfl (lv_at hl 1 rfl) ?_
    refine th_get S hK hH inG5 t0 kd_7 rfl 10 (by decide) gm_439 rfl rfl dX5_findSparing_29 (fun v44 hv44 fv44 => ?_)
    obtain ⟨x45, rfl, ix45⟩ := th_V.int hv44
    refine lv_iand hx hb dX5_findSparing_32 ?_
    refine lv_topi (fun x46 ex46 => ?_)
    have ix46 := iv_top x46
    refine lv_istore (lv' := [(4, .int x46), (3, .int x30), (0, .ref a0), (1, .int y1), (2, .int y2)]) hx hb dX5_findSparing_33 hl (by decide) rfl (fun ls hl => ?_)
    refine lv_aload_n hx hb dX5_findSparing_35 rfl (lv_at hl 2 rfl) ?_
    refine lv_iload hx hb dX5_findSparing_36 (lv_at hl 0 rfl) ?_
    refine lv_iload_n hx hb dX5_findSparing_38 rfl (lv_at hl 3 rfl) ?_
    refine lv_iload_n hx hb dX5_findSparing_39 rfl (lv_at hl 1 rfl) ?_
    refine th_callVi (n := 3) (As := [.int x46, .int y1, .int x30]) S hK hH hS (th_A.sub (by decide)) (m_X5_canMend l D cT T q hq a0 t0 (x46) ix46 (y1) (iv_w j1 (by decide)) (x30) (iv_top _)) gm_1048 gm_1045 gm_1047 gm_33 gm_122 (by decide +kernel) ⟨rfl, rfl, Nat.le_of_ble_eq_true rfl, Nat.le_of_ble_eq_true rfl⟩ t0 kd_7 rfl rfl hl.1 rfl (Nat.le_of_ble_eq_true rfl) dX5_findSparing_40 ⟨Nat.zero_le _, Nat.zero_le _⟩ (fun x47 H locs ix47 hH hS hF1 => ?_)
    have f48 := f41.kept (hF1 _ f41.lt (th_off t0 (by decide)))
    have f49 := f42.kept (hF1 _ f42.lt (th_off t0 (by decide)))
    have f50 := f43.kept (hF1 _ f43.lt (th_off t0 (by decide)))
    refine lv_if_ne (tgt := 47) hx hb dX5_findSparing_43 (by decide) (fun c51 => ?_) (fun c51 => ?_)
    · skip
      have ir52 : IV x47 1 1 := iv_cutL ix47 (iv_c (by decide) : IV 0 0 0) c51 (by decide)
      refine lv_iload_n hx hb dX5_findSparing_47 rfl (lv_at hl 3 rfl) ?_
      refine lv_aload_n hx hb dX5_findSparing_48 rfl (lv_at hl 2 rfl) ?_
      refine th_getK S hK f49 inG5 rfl (by decide) gm_427 rfl dX5_findSparing_49 ?_
      refine th_get S hK hH inG0 trf32 kd_4 rfl 0 (by decide) gm_370 rfl rfl dX5_findSparing_52 (fun v54 hv54 fv54 => ?_)
      obtain ⟨rf55, rfl, trf55⟩ := th_V.ref hv54
      refine th_get S hK hH inG4 trf55 kd_3 rfl 12 (by decide) gm_281 rfl rfl dX5_findSparing_55 (fun v56 hv56 fv56 => ?_)
      obtain ⟨x57, rfl, ix57⟩ := th_V.int hv56
      refine lv_icmp_lt (tgt := 71) hx hb dX5_findSparing_58 (by decide) (fun c58 => ?_) (fun c58 => ?_)
      · skip
        have ir59 : IV x57 1 4 := iv_uR j1 ix57 (iv_lt c58) (by decide)
        refine lv_iload_n hx hb dX5_findSparing_71 rfl (lv_at hl 1 rfl) ?_
        refine lv_aload_n hx hb dX5_findSparing_72 rfl (lv_at hl 2 rfl) ?_
        refine th_get S hK hH inG5 t0 kd_7 rfl 5 (by decide) gm_434 rfl rfl dX5_findSparing_73 (fun v60 hv60 fv60 => ?_)
        obtain ⟨rf61, rfl, trf61⟩ := th_V.ref hv60
        refine lv_iload_n hx hb dX5_findSparing_76 rfl (lv_at hl 3 rfl) ?_
        refine th_iald S hK hH trf61 kd_36 (th_in (hi := 0) j1 (by decide)) dX5_findSparing_77 (fun v62 hv62 => ?_)
        obtain ⟨x63, rfl, ix63⟩ := th_V.int hv62
        refine va_mmin hx hb (S.2.2.1.trans hl.1.symm) S.2.2.2.1 (S.2.2.2.2 _ gm_1039) (S.2.2.2.2 _ gm_649) (S.2.2.2.2 _ gm_129) (S.2.2.2.2 _ gm_650) (Nat.le_of_ble_eq_true rfl) (Nat.le_of_ble_eq_true rfl) (Nat.zero_le _) (Nat.zero_le _) dX5_findSparing_78 ?_
        refine lv_topi (fun x64 ex64 => ?_)
        have ix64 : IV x64 (-2147483648) 24 := by rw [ex64]; exact iv_min ix30 ix63 (by decide)
        refine lv_istore (lv' := [(5, .int x64), (4, .int x46), (3, .int x30), (0, .ref a0), (1, .int y1), (2, .int y2)]) hx hb dX5_findSparing_81 hl (by decide) rfl (fun ls hl => ?_)
        refine lv_iload_n hx hb dX5_findSparing_83 rfl (lv_at hl 4 rfl) ?_
        refine lv_aload_n hx hb dX5_findSparing_84 rfl (lv_at hl 3 rfl) ?_
        refine th_getK S hK f49 inG5 rfl (by decide) gm_427 rfl dX5_findSparing_85 ?_
        refine th_getK S hK fv54 inG0 rfl (by decide) gm_370 rfl dX5_findSparing_88 ?_
        refine th_getK S hK fv56 inG4 rfl (by decide) gm_281 rfl dX5_findSparing_91 ?_
        refine lv_iconst (v := 1) hx hb dX5_findSparing_94 (by decide) ?_
        refine lv_isub hx hb dX5_findSparing_95 ?_
        refine lv_topi (fun x68 ex68 => ?_)
        have ix68 : IV x68 0 3 := by rw [ex68]; exact iv_sub ir59 (iv_c (by decide) : IV 1 1 1) (by decide)
        refine lv_icmp_ne (tgt := 103) hx hb dX5_findSparing_96 (by decide) (fun c69 => ?_) (fun c69 => ?_)
        · skip
          refine lv_iconst (v := 0) hx hb dX5_findSparing_103 (by decide) ?_
          exact J104_s0_0 H locs ls x64 x28 ix64 ix28 f48 hH hS (lv_sub hl [3, 4, 5, 0] rfl)
        · skip
          have ir70 : IV x68 0 0 := iv_eR c69 j1
          refine lv_iconst (v := 1) hx hb dX5_findSparing_99 (by decide) ?_
          refine lv_goto (tgt := 104) hx hb dX5_findSparing_100 (by decide) ?_
          exact J104_s0_1 H locs ls x64 x28 ix64 ix28 f48 hH hS (lv_sub hl [3, 4, 5, 0] rfl)
      · skip
        have ir71 : IV x57 0 0 := iv_vL ix57 j1 (iv_nlt c58) (by decide)
        refine lv_aload_n hx hb dX5_findSparing_61 rfl (lv_at hl 2 rfl) ?_
        refine lv_iload_n hx hb dX5_findSparing_62 rfl (lv_at hl 4 rfl) ?_
        refine th_put S hK hH hS ⟨7, by decide, t0⟩ inG5 tyX5 tyX5_ok nmX5 t0 kd_7 rfl 11 (by decide) gm_440 rfl rfl rfl rfl (th_iv (iv_w (iv_w j2 (by decide) : IV y2 (-1000) 25) ⟨(qok_6 hq).2, by decide⟩)) (fun _ _ => trivial) (ty := .int) (by decide +kernel) rfl rfl dX5_findSparing_63 (fun H locs hH hS hq1 hp1 => ?_)
        have f72 := hp1.2 0 _ (by decide) (by decide) f49
        have f73 := hp1.2 3 _ (by decide) (by decide) f50
        have f74 := fv54.kept (hq1 _ (th_ne trf32 t0 (by decide)))
        have f75 := fv56.kept (hq1 _ (th_ne trf55 t0 (by decide)))
        have f76 := hp1.1
        refine lv_aload_n hx hb dX5_findSparing_66 rfl (lv_at hl 2 rfl) ?_
        refine th_callVv (n := 0) (As := []) S hK hH hS (th_A.sub (by decide)) (m_X5_layWay l D cT T q hq a0 t0) gm_1053 gm_1050 gm_1052 gm_34 gm_122 (by decide +kernel) ⟨rfl, rfl, Nat.le_of_ble_eq_true rfl, Nat.le_of_ble_eq_true rfl⟩ t0 kd_7 rfl rfl hl.1 rfl (Nat.le_of_ble_eq_true rfl) dX5_findSparing_67 ⟨Nat.zero_le _, Nat.zero_le _⟩ (fun H locs hH hS hF1 => ?_)
        have f77 := f74.kept (hF1 _ f74.lt (th_off trf32 (by decide)))
        have f78 := f75.kept (hF1 _ f75.lt (th_off trf55 (by decide)))
        exact th_vret S hK hH hS hr hlocks rfl dX5_findSparing_70
    · skip
      have ir79 : IV x47 0 0 := iv_eL c51 (iv_c (by decide) : IV 0 0 0)
      exact th_vret S hK hH hS hr hlocks rfl dX5_findSparing_46
  exact J0 s.heap [] ls hH va_S.rf hl

set_option maxRecDepth 100000 in
theorem m_X5_fewest (l : Launch) (D : va_G) (cT : Nat → ClassId) (T : Nat → Option Nat) (q : Nat → Int) (hq : qok q) (hT : tok T) (hlow : q 6 = -2147483647) (a0 : Nat) (t0 : T a0 = some 7) (a1 : Nat) (t1 : T a1 = some 10) (y2 : Int32) (j2 : IV y2 0 2) (y3 : Int32) (j3 : IV y3 (-2147483648) 2147483647) : th_Met l D cT T (kd q) yX5_fewest cX5_fewest 5 (some .int) (rmk 9 239) [.ref a0, .ref a1, .int y2, .int y3] (th_R T (some (.inl (-2147483647, 24)))) [7, 18, 19, 29, 34, 35, 36, 37, 38] := by
  refine th_start (by decide) (Nat.le_of_ble_eq_true rfl) ?_
  intro p e s m below meth c ls S hK hH hr hlocks hnm hl
  have hx := S.1
  have hb := S.2.1
  have hl : lv_has ls 5 [(0, .ref a0), (1, .ref a1), (2, .int y2), (3, .int y3)] := hl
  have J64 : ∀ (H : Heap) (locs : List Loc) (ls : Array Slot) (w64_0 : Int32) (u64_a0_11 : Int32), IV w64_0 (-2147483647) 24 → IV u64_a0_11 (-2147483647) 24 → th_fa D H a0 5 11 (.int u64_a0_11) → th_H D cT T (kd q) H → va_S (th_A T [7, 18, 19, 29, 34, 35, 36, 37, 38]) s.heap H locs → lv_has ls 5 [] → W p l e (rmk 9 239) s m [.ref a0, .ref a1, .int y2, .int y3].toArray below meth c H locs 0 0 (MQ below (th_Q D cT T (kd q) (th_R T (some (.inl (-2147483647, 24)))) [7, 18, 19, 29, 34, 35, 36, 37, 38]) [.ref a0, .ref a1, .int y2, .int y3].toArray s 0 0 (th_A T [7, 18, 19, 29, 34, 35, 36, 37, 38])) (F0 m 64 ls [.int w64_0]) := by
    intro H locs ls w64_0 u64_a0_11 iw64_0 iu64_a0_11 gu64_a0_11 hH hS hl
    exact th_iret S hK hH hS hr hlocks (th_R.i iw64_0) dX5_fewest_64
  have J64_s0_m1 : ∀ (H : Heap) (locs : List Loc) (ls : Array Slot) (u64_a0_11 : Int32), IV u64_a0_11 (-2147483647) 25 → th_fa D H a0 5 11 (.int u64_a0_11) → th_H D cT T (kd q) H → va_S (th_A T [7, 18, 19, 29, 34, 35, 36, 37, 38]) s.heap H locs → lv_has ls 5 [] → W p l e (rmk 9 239) s m [.ref a0, .ref a1, .int y2, .int y3].toArray below meth c H locs 0 0 (MQ below (th_Q D cT T (kd q) (th_R T (some (.inl (-2147483647, 24)))) [7, 18, 19, 29, 34, 35, 36, 37, 38]) [.ref a0, .ref a1, .int y2, .int y3].toArray s 0 0 (th_A T [7, 18, 19, 29, 34, 35, 36, 37, 38])) (F0 m 64 ls [.int (-1)]) := by
    intro H locs ls u64_a0_11 iu64_a0_11 gu64_a0_11 hH hS hl
    exact th_iret S hK hH hS hr hlocks (th_R.i (iv_w (iv_c (by decide) : IV (-1) (-1) (-1)) (by decide))) dX5_fewest_64
  have J0 : ∀ (H : Heap) (locs : List Loc) (ls : Array Slot), th_H D cT T (kd q) H → va_S (th_A T [7, 18, 19, 29, 34, 35, 36, 37, 38]) s.heap H locs → lv_has ls 5 [(0, .ref a0), (1, .ref a1), (2, .int y2), (3, .int y3)] → W p l e (rmk 9 239) s m [.ref a0, .ref a1, .int y2, .int y3].toArray below meth c H locs 0 0 (MQ below (th_Q D cT T (kd q) (th_R T (some (.inl (-2147483647, 24)))) [7, 18, 19, 29, 34, 35, 36, 37, 38]) [.ref a0, .ref a1, .int y2, .int y3].toArray s 0 0 (th_A T [7, 18, 19, 29, 34, 35, 36, 37, 38])) (F0 m 0 ls []) := by
    intro H locs ls hH hS hl
    refine lv_aload_n hx hb dX5_fewest_0 rfl (lv_at hl 0 rfl) ?_
    refine lv_aload_n hx hb dX5_fewest_1 rfl (lv_at hl 1 rfl) ?_
    refine lv_iload_n hx hb dX5_fewest_2 rfl (lv_at hl 2 rfl) ?_
    refine th_callVv (n := 2) (As := [.ref a1, .int y2]) S hK hH hS (th_A.sub (by decide)) (m_X5_prepare l D cT T q hq a0 t0 a1 t1 (y2) j2) gm_1031 gm_1028 gm_1030 gm_30 gm_122 (by decide +kernel) ⟨rfl, rfl, Nat.le_of_ble_eq_true rfl, Nat.le_of_ble_eq_true rfl⟩ t0 kd_7 rfl rfl hl.1 rfl (Nat.le_of_ble_eq_true rfl) dX5_fewest_3 ⟨Nat.zero_le _, Nat.zero_le _⟩ (fun H locs hH hS hF1 => ?_)
    refine lv_aload_n hx hb dX5_fewest_6 rfl (lv_at hl 0 rfl) ?_
    refine th_callVv (n := 0) (As := []) S hK hH hS (th_A.sub (by decide)) (m_X5_boundUse l D cT T q hq a0 t0) gm_1037 gm_1034 gm_1036 gm_31 gm_122 (by decide +kernel) ⟨rfl, rfl, Nat.le_of_ble_eq_true rfl, Nat.le_of_ble_eq_true rfl⟩ t0 kd_7 rfl rfl hl.1 rfl (Nat.le_of_ble_eq_true rfl) dX5_fewest_7 ⟨Nat.zero_le _, Nat.zero_le _⟩ (fun H locs hH hS hF1 => ?_)
    refine lv_aload_n hx hb dX5_fewest_10 rfl (lv_at hl 0 rfl) ?_
    refine lv_iload_n hx hb dX5_fewest_11 rfl (lv_at hl 3 rfl) ?_
    refine th_put S hK hH hS ⟨7, by decide, t0⟩ inG5 tyX5 tyX5_ok nmX5 t0 kd_7 rfl 10 (by decide) gm_439 rfl rfl rfl rfl (th_iv j3) (fun _ _ => trivial) (ty := .int) (by decide +kernel) rfl rfl dX5_fewest_12 (fun H locs hH hS hq1 hp1 => ?_)
    refine lv_bipush (v := 24) hx hb dX5_fewest_15 (by decide) ?_
    refine lv_aload_n hx hb dX5_fewest_17 rfl (lv_at hl 1 rfl) ?_
    refine th_get S hK hH inG7 t1 kd_10 rfl 0 (by decide) gm_227 rfl rfl dX5_fewest_18 (fun v1 hv1 fv1 => ?_)
    obtain ⟨rf2, rfl, trf2⟩ := th_V.ref hv1
    refine lv_iconst (v := 0) hx hb dX5_fewest_21 (by decide) ?_
    refine lv_aload_n hx hb dX5_fewest_22 rfl (lv_at hl 0 rfl) ?_
    refine th_get S hK hH inG5 t0 kd_7 rfl 9 (by decide) gm_438 rfl rfl dX5_fewest_23 (fun v3 hv3 fv3 => ?_)
    obtain ⟨x4, rfl, ix4⟩ := th_V.int hv3
    refine lv_iadd hx hb dX5_fewest_26 ?_
    refine lv_topi (fun x5 ex5 => ?_)
    have ix5 : IV x5 0 2 := by rw [ex5]; exact iv_add (iv_c (by decide) : IV 0 0 0) ix4 (by decide)
    refine th_iald S hK hH trf2 kd_29 (th_in (hi := 2) ix5 (by decide)) dX5_fewest_27 (fun v6 hv6 => ?_)
    obtain ⟨x7, rfl, ix7⟩ := th_V.int hv6
    refine va_mmin hx hb (S.2.2.1.trans hl.1.symm) S.2.2.2.1 (S.2.2.2.2 _ gm_1039) (S.2.2.2.2 _ gm_649) (S.2.2.2.2 _ gm_129) (S.2.2.2.2 _ gm_650) (Nat.le_of_ble_eq_true rfl) (Nat.le_of_ble_eq_true rfl) (Nat.zero_le _) (Nat.zero_le _) dX5_fewest_28 ?_
    refine lv_topi (fun x8 ex8 => ?_)
    have ix8 : IV x8 (-2147483648) 24 := by rw [ex8]; exact iv_min (iv_c (by decide) : IV 24 24 24) ix7 (by decide)
    refine lv_istore (lv' := [(4, .int x8), (0, .ref a0), (1, .ref a1), (2, .int y2), (3, .int y3)]) hx hb dX5_fewest_31 hl (by decide) rfl (fun ls hl => ?_)
    refine lv_aload_n hx hb dX5_fewest_33 rfl (lv_at hl 1 rfl) ?_
    refine lv_iload hx hb dX5_fewest_34 (lv_at hl 0 rfl) ?_
    refine lv_iconst (v := 1) hx hb dX5_fewest_36 (by decide) ?_
    refine lv_iadd hx hb dX5_fewest_37 ?_
    refine lv_topi (fun x9 ex9 => ?_)
    have ix9 : IV x9 (-2147483647) 25 := by rw [ex9]; exact iv_add ix8 (iv_c (by decide) : IV 1 1 1) (by decide)
    refine th_put S hK hH hS ⟨7, by decide, t0⟩ inG5 tyX5 tyX5_ok nmX5 t0 kd_7 rfl 11 (by decide) gm_440 rfl rfl rfl rfl (th_iv (iv_w (iv_w ix9 (by decide) : IV x9 (-2147483647) 25) ⟨Int.le_of_eq hlow, by decide⟩)) (fun _ _ => trivial) (ty := .int) (by decide +kernel) rfl rfl dX5_fewest_38 (fun H locs hH hS hq1 hp1 => ?_)
    have f10 := hp1.1
    refine lv_aload_n hx hb dX5_fewest_41 rfl (lv_at hl 1 rfl) ?_
    refine lv_iconst (v := 0) hx hb dX5_fewest_42 (by decide) ?_
    refine lv_iconst (v := 0) hx hb dX5_fewest_43 (by decide) ?_
    refine th_callVv (n := 2) (As := [.int 0, .int 0]) S hK hH hS (th_A.sub (by decide)) (m_X5_findSparing_v4 l D cT T q hq hT a0 t0 (0) (iv_c (by decide) : IV 0 0 0) (0) (iv_c (by decide) : IV 0 0 0)) gm_1043 gm_1040 gm_1042 gm_32 gm_122 (by decide +kernel) ⟨rfl, rfl, Nat.le_of_ble_eq_true rfl, Nat.le_of_ble_eq_true rfl⟩ t0 kd_7 rfl rfl hl.1 rfl (Nat.le_of_ble_eq_true rfl) dX5_fewest_44 ⟨Nat.zero_le _, Nat.zero_le _⟩ (fun H locs hH hS hF1 => ?_)
    refine lv_aload_n hx hb dX5_fewest_47 rfl (lv_at hl 1 rfl) ?_
    refine th_get S hK hH inG5 t0 kd_7 rfl 11 (by decide) gm_440 rfl rfl dX5_fewest_48 (fun v11 hv11 fv11 => ?_)
    obtain ⟨x12, rfl, ix12⟩ := th_V.int hv11
    have ix12 : IV x12 (-2147483647) 25 := iv_w ix12 ⟨(qok_6 hq).1, by decide⟩
    refine lv_iload hx hb dX5_fewest_51 (lv_at hl 0 rfl) ?_
    refine lv_icmp_le (tgt := 60) hx hb dX5_fewest_53 (by decide) (fun c13 => ?_) (fun c13 => ?_)
    · skip
      have ir14 : IV x8 (-2147483647) 24 := iv_vR ix12 ix8 (iv_le c13) (by decide)
      have ir15 : IV x12 (-2147483647) 24 := iv_vL ix12 ix8 (iv_le c13) (by decide)
      refine lv_aload_n hx hb dX5_fewest_60 rfl (lv_at hl 1 rfl) ?_
      refine th_getK S hK fv11 inG5 rfl (by decide) gm_440 rfl dX5_fewest_61 ?_
      exact J64 H locs ls x12 x12 ir15 ir15 fv11 hH hS (lv_sub hl [] rfl)
    · skip
      refine lv_iconst (v := (-1)) hx hb dX5_fewest_56 (by decide) ?_
      refine lv_goto (tgt := 64) hx hb dX5_fewest_57 (by decide) ?_
      exact J64_s0_m1 H locs ls x12 ix12 fv11 hH hS (lv_sub hl [] rfl)
  exact J0 s.heap [] ls hH va_S.rf hl

set_option maxRecDepth 100000 in
theorem m_X5_leastFor_v0 (l : Launch) (D : va_G) (cT : Nat → ClassId) (T : Nat → Option Nat) (q : Nat → Int) (hq : qok q) (a0 : Nat) (t0 : T a0 = some 7) (y1 : Int32) (j1 : IV y1 0 0) (y2 : Int32) (j2 : IV y2 0 12) : th_Met l D cT T (kd q) yX5_leastFor cX5_leastFor 3 (some .int) (rmk 0 0) [.ref a0, .int y1, .int y2] (th_R T (some (.inl (0, 12)))) [] := by
  refine th_start (by decide) (Nat.le_of_ble_eq_true rfl) ?_
  intro p e s m below meth c ls S hK hH hr hlocks hnm hl
  have hx := S.1
  have hb := S.2.1
  have hl : lv_has ls 3 [(0, .ref a0), (1, .int y1), (2, .int y2)] := hl
  have J21 : ∀ (H : Heap) (locs : List Loc) (ls : Array Slot), th_H D cT T (kd q) H → va_S (th_A T []) s.heap H locs → lv_has ls 3 [] → W p l e (rmk 0 0) s m [.ref a0, .int y1, .int y2].toArray below meth c H locs 0 0 (MQ below (th_Q D cT T (kd q) (th_R T (some (.inl (0, 12)))) []) [.ref a0, .int y1, .int y2].toArray s 0 0 (th_A T [])) (F0 m 21 ls [.int y2]) := by
    intro H locs ls hH hS hl
    exact th_iret S hK hH hS hr hlocks (th_R.i j2) dX5_leastFor_21
  have J21_s0_0 : ∀ (H : Heap) (locs : List Loc) (ls : Array Slot), th_H D cT T (kd q) H → va_S (th_A T []) s.heap H locs → lv_has ls 3 [] → W p l e (rmk 0 0) s m [.ref a0, .int y1, .int y2].toArray below meth c H locs 0 0 (MQ below (th_Q D cT T (kd q) (th_R T (some (.inl (0, 12)))) []) [.ref a0, .int y1, .int y2].toArray s 0 0 (th_A T [])) (F0 m 21 ls [.int 0]) := by
    intro H locs ls hH hS hl
    exact th_iret S hK hH hS hr hlocks (th_R.i (iv_w (iv_c (by decide) : IV 0 0 0) (by decide))) dX5_leastFor_21
  have J0 : ∀ (H : Heap) (locs : List Loc) (ls : Array Slot), th_H D cT T (kd q) H → va_S (th_A T []) s.heap H locs → lv_has ls 3 [(0, .ref a0), (1, .int y1), (2, .int y2)] → W p l e (rmk 0 0) s m [.ref a0, .int y1, .int y2].toArray below meth c H locs 0 0 (MQ below (th_Q D cT T (kd q) (th_R T (some (.inl (0, 12)))) []) [.ref a0, .int y1, .int y2].toArray s 0 0 (th_A T [])) (F0 m 0 ls []) := by
    intro H locs ls hH hS hl
    refine lv_iload_n hx hb dX5_leastFor_0 rfl (lv_at hl 1 rfl) ?_
    refine lv_aload_n hx hb dX5_leastFor_1 rfl (lv_at hl 0 rfl) ?_
    refine th_get S hK hH inG5 t0 kd_7 rfl 0 (by decide) gm_427 rfl rfl dX5_leastFor_2 (fun v1 hv1 fv1 => ?_)
    obtain ⟨rf2, rfl, trf2⟩ := th_V.ref hv1
    refine th_get S hK hH inG0 trf2 kd_4 rfl 0 (by decide) gm_370 rfl rfl dX5_leastFor_5 (fun v3 hv3 fv3 => ?_)
    obtain ⟨rf4, rfl, trf4⟩ := th_V.ref hv3
    refine th_get S hK hH inG4 trf4 kd_3 rfl 12 (by decide) gm_281 rfl rfl dX5_leastFor_8 (fun v5 hv5 fv5 => ?_)
    obtain ⟨x6, rfl, ix6⟩ := th_V.int hv5
    refine lv_iconst (v := 1) hx hb dX5_leastFor_11 (by decide) ?_
    refine lv_isub hx hb dX5_leastFor_12 ?_
    refine lv_topi (fun x7 ex7 => ?_)
    have ix7 : IV x7 (-1) 3 := by rw [ex7]; exact iv_sub ix6 (iv_c (by decide) : IV 1 1 1) (by decide)
    refine lv_icmp_ne (tgt := 20) hx hb dX5_leastFor_13 (by decide) (fun c8 => ?_) (fun c8 => ?_)
    · skip
      refine lv_iconst (v := 0) hx hb dX5_leastFor_20 (by decide) ?_
      exact J21_s0_0 H locs ls  hH hS (lv_sub hl [] rfl)
    · skip
      have ir9 : IV x7 0 0 := iv_eR c8 j1
      refine lv_iload_n hx hb dX5_leastFor_16 rfl (lv_at hl 2 rfl) ?_
      refine lv_goto (tgt := 21) hx hb dX5_leastFor_17 (by decide) ?_
      exact J21 H locs ls  hH hS (lv_sub hl [] rfl)
  exact J0 s.heap [] ls hH va_S.rf hl
