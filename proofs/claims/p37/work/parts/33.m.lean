theorem dX9_countFitting_0 : decode cX9_countFitting 0 = .ok (.aload_n 0, 1) := by decide +kernel
theorem dX9_countFitting_1 : decode cX9_countFitting 1 = .ok (.getfield 28, 3) := by decide +kernel
theorem dX9_countFitting_4 : decode cX9_countFitting 4 = .ok (.iconst 0, 1) := by decide +kernel
theorem dX9_countFitting_5 : decode cX9_countFitting 5 = .ok (.invokestatic 38, 3) := by decide +kernel
theorem dX9_countFitting_8 : decode cX9_countFitting 8 = .ok (.iload_n 1, 1) := by decide +kernel
theorem dX9_countFitting_9 : decode cX9_countFitting 9 = .ok (.ifCond .le 8, 3) := by decide +kernel
theorem dX9_countFitting_12 : decode cX9_countFitting 12 = .ok (.bipush 6, 2) := by decide +kernel
theorem dX9_countFitting_14 : decode cX9_countFitting 14 = .ok (.goto 4, 3) := by decide +kernel
theorem dX9_countFitting_17 : decode cX9_countFitting 17 = .ok (.iconst 1, 1) := by decide +kernel
theorem dX9_countFitting_18 : decode cX9_countFitting 18 = .ok (.istore_n 3, 1) := by decide +kernel
theorem dX9_countFitting_19 : decode cX9_countFitting 19 = .ok (.iload_n 1, 1) := by decide +kernel
theorem dX9_countFitting_20 : decode cX9_countFitting 20 = .ok (.iconst 1, 1) := by decide +kernel
theorem dX9_countFitting_21 : decode cX9_countFitting 21 = .ok (.if_icmp .le 8, 3) := by decide +kernel
theorem dX9_countFitting_24 : decode cX9_countFitting 24 = .ok (.bipush 6, 2) := by decide +kernel
theorem dX9_countFitting_26 : decode cX9_countFitting 26 = .ok (.goto 4, 3) := by decide +kernel
theorem dX9_countFitting_29 : decode cX9_countFitting 29 = .ok (.iconst 1, 1) := by decide +kernel
theorem dX9_countFitting_30 : decode cX9_countFitting 30 = .ok (.istore 4, 2) := by decide +kernel
theorem dX9_countFitting_32 : decode cX9_countFitting 32 = .ok (.iload_n 1, 1) := by decide +kernel
theorem dX9_countFitting_33 : decode cX9_countFitting 33 = .ok (.iconst 2, 1) := by decide +kernel
theorem dX9_countFitting_34 : decode cX9_countFitting 34 = .ok (.if_icmp .le 8, 3) := by decide +kernel
theorem dX9_countFitting_37 : decode cX9_countFitting 37 = .ok (.bipush 6, 2) := by decide +kernel
theorem dX9_countFitting_39 : decode cX9_countFitting 39 = .ok (.goto 4, 3) := by decide +kernel
theorem dX9_countFitting_42 : decode cX9_countFitting 42 = .ok (.iconst 1, 1) := by decide +kernel
theorem dX9_countFitting_43 : decode cX9_countFitting 43 = .ok (.istore 5, 2) := by decide +kernel
theorem dX9_countFitting_45 : decode cX9_countFitting 45 = .ok (.iconst 0, 1) := by decide +kernel
theorem dX9_countFitting_46 : decode cX9_countFitting 46 = .ok (.istore 6, 2) := by decide +kernel
theorem dX9_countFitting_48 : decode cX9_countFitting 48 = .ok (.iconst 0, 1) := by decide +kernel
theorem dX9_countFitting_49 : decode cX9_countFitting 49 = .ok (.istore 7, 2) := by decide +kernel
theorem dX9_countFitting_51 : decode cX9_countFitting 51 = .ok (.iload 7, 2) := by decide +kernel
theorem dX9_countFitting_53 : decode cX9_countFitting 53 = .ok (.iload_n 3, 1) := by decide +kernel
theorem dX9_countFitting_54 : decode cX9_countFitting 54 = .ok (.if_icmp .ge 97, 3) := by decide +kernel
theorem dX9_countFitting_57 : decode cX9_countFitting 57 = .ok (.iconst 0, 1) := by decide +kernel
theorem dX9_countFitting_58 : decode cX9_countFitting 58 = .ok (.istore 8, 2) := by decide +kernel
theorem dX9_countFitting_60 : decode cX9_countFitting 60 = .ok (.iload 8, 2) := by decide +kernel
theorem dX9_countFitting_62 : decode cX9_countFitting 62 = .ok (.iload 4, 2) := by decide +kernel
theorem dX9_countFitting_64 : decode cX9_countFitting 64 = .ok (.if_icmp .ge 81, 3) := by decide +kernel
theorem dX9_countFitting_67 : decode cX9_countFitting 67 = .ok (.iconst 0, 1) := by decide +kernel
theorem dX9_countFitting_68 : decode cX9_countFitting 68 = .ok (.istore 9, 2) := by decide +kernel
theorem dX9_countFitting_70 : decode cX9_countFitting 70 = .ok (.iload 9, 2) := by decide +kernel
theorem dX9_countFitting_72 : decode cX9_countFitting 72 = .ok (.iload 5, 2) := by decide +kernel
theorem dX9_countFitting_74 : decode cX9_countFitting 74 = .ok (.if_icmp .ge 65, 3) := by decide +kernel
theorem dX9_countFitting_77 : decode cX9_countFitting 77 = .ok (.aload_n 0, 1) := by decide +kernel
theorem dX9_countFitting_78 : decode cX9_countFitting 78 = .ok (.iload 7, 2) := by decide +kernel
theorem dX9_countFitting_80 : decode cX9_countFitting 80 = .ok (.iload 8, 2) := by decide +kernel
theorem dX9_countFitting_82 : decode cX9_countFitting 82 = .ok (.iload 9, 2) := by decide +kernel
theorem dX9_countFitting_84 : decode cX9_countFitting 84 = .ok (.iload_n 2, 1) := by decide +kernel
theorem dX9_countFitting_85 : decode cX9_countFitting 85 = .ok (.invokevirtual 44, 3) := by decide +kernel
theorem dX9_countFitting_88 : decode cX9_countFitting 88 = .ok (.ifCond .eq 45, 3) := by decide +kernel
theorem dX9_countFitting_91 : decode cX9_countFitting 91 = .ok (.iinc 6 1, 3) := by decide +kernel
theorem dX9_countFitting_94 : decode cX9_countFitting 94 = .ok (.aload_n 0, 1) := by decide +kernel
theorem dX9_countFitting_95 : decode cX9_countFitting 95 = .ok (.getfield 28, 3) := by decide +kernel
theorem dX9_countFitting_98 : decode cX9_countFitting 98 = .ok (.iload 7, 2) := by decide +kernel
theorem dX9_countFitting_100 : decode cX9_countFitting 100 = .ok (.dup2, 1) := by decide +kernel
theorem dX9_countFitting_101 : decode cX9_countFitting 101 = .ok (.iaload, 1) := by decide +kernel
theorem dX9_countFitting_102 : decode cX9_countFitting 102 = .ok (.iconst 1, 1) := by decide +kernel
theorem dX9_countFitting_103 : decode cX9_countFitting 103 = .ok (.iadd, 1) := by decide +kernel
theorem dX9_countFitting_104 : decode cX9_countFitting 104 = .ok (.iastore, 1) := by decide +kernel
theorem dX9_countFitting_105 : decode cX9_countFitting 105 = .ok (.aload_n 0, 1) := by decide +kernel
theorem dX9_countFitting_106 : decode cX9_countFitting 106 = .ok (.getfield 28, 3) := by decide +kernel
theorem dX9_countFitting_109 : decode cX9_countFitting 109 = .ok (.bipush 6, 2) := by decide +kernel
theorem dX9_countFitting_111 : decode cX9_countFitting 111 = .ok (.iload 8, 2) := by decide +kernel
theorem dX9_countFitting_113 : decode cX9_countFitting 113 = .ok (.iadd, 1) := by decide +kernel
theorem dX9_countFitting_114 : decode cX9_countFitting 114 = .ok (.dup2, 1) := by decide +kernel
theorem dX9_countFitting_115 : decode cX9_countFitting 115 = .ok (.iaload, 1) := by decide +kernel
theorem dX9_countFitting_116 : decode cX9_countFitting 116 = .ok (.iconst 1, 1) := by decide +kernel
theorem dX9_countFitting_117 : decode cX9_countFitting 117 = .ok (.iadd, 1) := by decide +kernel
theorem dX9_countFitting_118 : decode cX9_countFitting 118 = .ok (.iastore, 1) := by decide +kernel
theorem dX9_countFitting_119 : decode cX9_countFitting 119 = .ok (.aload_n 0, 1) := by decide +kernel
theorem dX9_countFitting_120 : decode cX9_countFitting 120 = .ok (.getfield 28, 3) := by decide +kernel
theorem dX9_countFitting_123 : decode cX9_countFitting 123 = .ok (.bipush 12, 2) := by decide +kernel
theorem dX9_countFitting_125 : decode cX9_countFitting 125 = .ok (.iload 9, 2) := by decide +kernel
theorem dX9_countFitting_127 : decode cX9_countFitting 127 = .ok (.iadd, 1) := by decide +kernel
theorem dX9_countFitting_128 : decode cX9_countFitting 128 = .ok (.dup2, 1) := by decide +kernel
theorem dX9_countFitting_129 : decode cX9_countFitting 129 = .ok (.iaload, 1) := by decide +kernel
theorem dX9_countFitting_130 : decode cX9_countFitting 130 = .ok (.iconst 1, 1) := by decide +kernel
theorem dX9_countFitting_131 : decode cX9_countFitting 131 = .ok (.iadd, 1) := by decide +kernel
theorem dX9_countFitting_132 : decode cX9_countFitting 132 = .ok (.iastore, 1) := by decide +kernel
theorem dX9_countFitting_133 : decode cX9_countFitting 133 = .ok (.iinc 9 1, 3) := by decide +kernel
theorem dX9_countFitting_136 : decode cX9_countFitting 136 = .ok (.goto (-66), 3) := by decide +kernel
theorem dX9_countFitting_139 : decode cX9_countFitting 139 = .ok (.iinc 8 1, 3) := by decide +kernel
theorem dX9_countFitting_142 : decode cX9_countFitting 142 = .ok (.goto (-82), 3) := by decide +kernel
theorem dX9_countFitting_145 : decode cX9_countFitting 145 = .ok (.iinc 7 1, 3) := by decide +kernel
theorem dX9_countFitting_148 : decode cX9_countFitting 148 = .ok (.goto (-97), 3) := by decide +kernel
theorem dX9_countFitting_151 : decode cX9_countFitting 151 = .ok (.iload 6, 2) := by decide +kernel
theorem dX9_countFitting_153 : decode cX9_countFitting 153 = .ok (.ireturn, 1) := by decide +kernel
theorem dX9_sureLiking_0 : decode cX9_sureLiking 0 = .ok (.aload_n 0, 1) := by decide +kernel
theorem dX9_sureLiking_1 : decode cX9_sureLiking 1 = .ok (.iload_n 1, 1) := by decide +kernel
theorem dX9_sureLiking_2 : decode cX9_sureLiking 2 = .ok (.iload_n 3, 1) := by decide +kernel
theorem dX9_sureLiking_3 : decode cX9_sureLiking 3 = .ok (.invokevirtual 52, 3) := by decide +kernel
theorem dX9_sureLiking_6 : decode cX9_sureLiking 6 = .ok (.istore 4, 2) := by decide +kernel
theorem dX9_sureLiking_8 : decode cX9_sureLiking 8 = .ok (.iload 4, 2) := by decide +kernel
theorem dX9_sureLiking_10 : decode cX9_sureLiking 10 = .ok (.ifCond .ne 5, 3) := by decide +kernel
theorem dX9_sureLiking_13 : decode cX9_sureLiking 13 = .ok (.iconst (-1), 1) := by decide +kernel
theorem dX9_sureLiking_14 : decode cX9_sureLiking 14 = .ok (.ireturn, 1) := by decide +kernel
theorem dX9_sureLiking_15 : decode cX9_sureLiking 15 = .ok (.iconst 0, 1) := by decide +kernel
theorem dX9_sureLiking_16 : decode cX9_sureLiking 16 = .ok (.istore 5, 2) := by decide +kernel
theorem dX9_sureLiking_18 : decode cX9_sureLiking 18 = .ok (.iload 5, 2) := by decide +kernel
theorem dX9_sureLiking_20 : decode cX9_sureLiking 20 = .ok (.bipush 6, 2) := by decide +kernel
theorem dX9_sureLiking_22 : decode cX9_sureLiking 22 = .ok (.if_icmp .ge 29, 3) := by decide +kernel
theorem dX9_sureLiking_25 : decode cX9_sureLiking 25 = .ok (.aload_n 0, 1) := by decide +kernel
theorem dX9_sureLiking_26 : decode cX9_sureLiking 26 = .ok (.getfield 28, 3) := by decide +kernel
theorem dX9_sureLiking_29 : decode cX9_sureLiking 29 = .ok (.iload_n 2, 1) := by decide +kernel
theorem dX9_sureLiking_30 : decode cX9_sureLiking 30 = .ok (.bipush 6, 2) := by decide +kernel
theorem dX9_sureLiking_32 : decode cX9_sureLiking 32 = .ok (.imul, 1) := by decide +kernel
theorem dX9_sureLiking_33 : decode cX9_sureLiking 33 = .ok (.iload 5, 2) := by decide +kernel
theorem dX9_sureLiking_35 : decode cX9_sureLiking 35 = .ok (.iadd, 1) := by decide +kernel
theorem dX9_sureLiking_36 : decode cX9_sureLiking 36 = .ok (.iaload, 1) := by decide +kernel
theorem dX9_sureLiking_37 : decode cX9_sureLiking 37 = .ok (.iload 4, 2) := by decide +kernel
theorem dX9_sureLiking_39 : decode cX9_sureLiking 39 = .ok (.if_icmp .ne 6, 3) := by decide +kernel
theorem dX9_sureLiking_42 : decode cX9_sureLiking 42 = .ok (.iload 5, 2) := by decide +kernel
theorem dX9_sureLiking_44 : decode cX9_sureLiking 44 = .ok (.ireturn, 1) := by decide +kernel
theorem dX9_sureLiking_45 : decode cX9_sureLiking 45 = .ok (.iinc 5 1, 3) := by decide +kernel
theorem dX9_sureLiking_48 : decode cX9_sureLiking 48 = .ok (.goto (-30), 3) := by decide +kernel
theorem dX9_sureLiking_51 : decode cX9_sureLiking 51 = .ok (.bipush (-2), 2) := by decide +kernel
theorem dX9_sureLiking_53 : decode cX9_sureLiking 53 = .ok (.ireturn, 1) := by decide +kernel
theorem dX9_fullBy_0 : decode cX9_fullBy 0 = .ok (.iconst 0, 1) := by decide +kernel
theorem dX9_fullBy_1 : decode cX9_fullBy 1 = .ok (.istore 4, 2) := by decide +kernel
theorem dX9_fullBy_3 : decode cX9_fullBy 3 = .ok (.iconst 0, 1) := by decide +kernel
theorem dX9_fullBy_4 : decode cX9_fullBy 4 = .ok (.istore 5, 2) := by decide +kernel
theorem dX9_fullBy_6 : decode cX9_fullBy 6 = .ok (.iload 5, 2) := by decide +kernel
theorem dX9_fullBy_8 : decode cX9_fullBy 8 = .ok (.bipush 6, 2) := by decide +kernel
theorem dX9_fullBy_10 : decode cX9_fullBy 10 = .ok (.if_icmp .ge 34, 3) := by decide +kernel
theorem dX9_fullBy_13 : decode cX9_fullBy 13 = .ok (.iload 5, 2) := by decide +kernel
theorem dX9_fullBy_15 : decode cX9_fullBy 15 = .ok (.iload_n 2, 1) := by decide +kernel
theorem dX9_fullBy_16 : decode cX9_fullBy 16 = .ok (.imul, 1) := by decide +kernel
theorem dX9_fullBy_17 : decode cX9_fullBy 17 = .ok (.iload_n 3, 1) := by decide +kernel
theorem dX9_fullBy_18 : decode cX9_fullBy 18 = .ok (.if_icmp .lt 20, 3) := by decide +kernel
theorem dX9_fullBy_21 : decode cX9_fullBy 21 = .ok (.iload 4, 2) := by decide +kernel
theorem dX9_fullBy_23 : decode cX9_fullBy 23 = .ok (.aload_n 0, 1) := by decide +kernel
theorem dX9_fullBy_24 : decode cX9_fullBy 24 = .ok (.getfield 28, 3) := by decide +kernel
theorem dX9_fullBy_27 : decode cX9_fullBy 27 = .ok (.iload_n 1, 1) := by decide +kernel
theorem dX9_fullBy_28 : decode cX9_fullBy 28 = .ok (.bipush 6, 2) := by decide +kernel
theorem dX9_fullBy_30 : decode cX9_fullBy 30 = .ok (.imul, 1) := by decide +kernel
theorem dX9_fullBy_31 : decode cX9_fullBy 31 = .ok (.iload 5, 2) := by decide +kernel
theorem dX9_fullBy_33 : decode cX9_fullBy 33 = .ok (.iadd, 1) := by decide +kernel
theorem dX9_fullBy_34 : decode cX9_fullBy 34 = .ok (.iaload, 1) := by decide +kernel
theorem dX9_fullBy_35 : decode cX9_fullBy 35 = .ok (.iadd, 1) := by decide +kernel
theorem dX9_fullBy_36 : decode cX9_fullBy 36 = .ok (.istore 4, 2) := by decide +kernel
theorem dX9_fullBy_38 : decode cX9_fullBy 38 = .ok (.iinc 5 1, 3) := by decide +kernel
theorem dX9_fullBy_41 : decode cX9_fullBy 41 = .ok (.goto (-35), 3) := by decide +kernel
theorem dX9_fullBy_44 : decode cX9_fullBy 44 = .ok (.iload 4, 2) := by decide +kernel
theorem dX9_fullBy_46 : decode cX9_fullBy 46 = .ok (.ireturn, 1) := by decide +kernel
theorem dX9_nextTrial_0 : decode cX9_nextTrial 0 = .ok (.aload_n 0, 1) := by decide +kernel
theorem dX9_nextTrial_1 : decode cX9_nextTrial 1 = .ok (.iload_n 1, 1) := by decide +kernel
theorem dX9_nextTrial_2 : decode cX9_nextTrial 2 = .ok (.iload 4, 2) := by decide +kernel
theorem dX9_nextTrial_4 : decode cX9_nextTrial 4 = .ok (.invokevirtual 52, 3) := by decide +kernel
theorem dX9_nextTrial_7 : decode cX9_nextTrial 7 = .ok (.istore 5, 2) := by decide +kernel
theorem dX9_nextTrial_9 : decode cX9_nextTrial 9 = .ok (.iload 5, 2) := by decide +kernel
theorem dX9_nextTrial_11 : decode cX9_nextTrial 11 = .ok (.ifCond .ne 5, 3) := by decide +kernel
theorem dX9_nextTrial_14 : decode cX9_nextTrial 14 = .ok (.iconst (-1), 1) := by decide +kernel
theorem dX9_nextTrial_15 : decode cX9_nextTrial 15 = .ok (.ireturn, 1) := by decide +kernel
theorem dX9_nextTrial_16 : decode cX9_nextTrial 16 = .ok (.iconst (-1), 1) := by decide +kernel
theorem dX9_nextTrial_17 : decode cX9_nextTrial 17 = .ok (.istore 6, 2) := by decide +kernel
theorem dX9_nextTrial_19 : decode cX9_nextTrial 19 = .ok (.iload 5, 2) := by decide +kernel
theorem dX9_nextTrial_21 : decode cX9_nextTrial 21 = .ok (.iconst 1, 1) := by decide +kernel
theorem dX9_nextTrial_22 : decode cX9_nextTrial 22 = .ok (.iadd, 1) := by decide +kernel
theorem dX9_nextTrial_23 : decode cX9_nextTrial 23 = .ok (.istore 7, 2) := by decide +kernel
theorem dX9_nextTrial_25 : decode cX9_nextTrial 25 = .ok (.iconst 0, 1) := by decide +kernel
theorem dX9_nextTrial_26 : decode cX9_nextTrial 26 = .ok (.istore 8, 2) := by decide +kernel
theorem dX9_nextTrial_28 : decode cX9_nextTrial 28 = .ok (.iload 8, 2) := by decide +kernel
theorem dX9_nextTrial_30 : decode cX9_nextTrial 30 = .ok (.iload_n 1, 1) := by decide +kernel
theorem dX9_nextTrial_31 : decode cX9_nextTrial 31 = .ok (.if_icmp .ge 69, 3) := by decide +kernel
theorem dX9_nextTrial_34 : decode cX9_nextTrial 34 = .ok (.iconst 1, 1) := by decide +kernel
theorem dX9_nextTrial_35 : decode cX9_nextTrial 35 = .ok (.istore 9, 2) := by decide +kernel
theorem dX9_nextTrial_37 : decode cX9_nextTrial 37 = .ok (.iload 9, 2) := by decide +kernel
theorem dX9_nextTrial_39 : decode cX9_nextTrial 39 = .ok (.bipush 9, 2) := by decide +kernel
theorem dX9_nextTrial_41 : decode cX9_nextTrial 41 = .ok (.if_icmp .gt 53, 3) := by decide +kernel
theorem dX9_nextTrial_44 : decode cX9_nextTrial 44 = .ok (.aload_n 0, 1) := by decide +kernel
theorem dX9_nextTrial_45 : decode cX9_nextTrial 45 = .ok (.iload 8, 2) := by decide +kernel
theorem dX9_nextTrial_47 : decode cX9_nextTrial 47 = .ok (.iload 9, 2) := by decide +kernel
theorem dX9_nextTrial_49 : decode cX9_nextTrial 49 = .ok (.iload_n 2, 1) := by decide +kernel
theorem dX9_nextTrial_50 : decode cX9_nextTrial 50 = .ok (.invokevirtual 56, 3) := by decide +kernel
theorem dX9_nextTrial_53 : decode cX9_nextTrial 53 = .ok (.istore 10, 2) := by decide +kernel
theorem dX9_nextTrial_55 : decode cX9_nextTrial 55 = .ok (.iload 10, 2) := by decide +kernel
theorem dX9_nextTrial_57 : decode cX9_nextTrial 57 = .ok (.iload 5, 2) := by decide +kernel
theorem dX9_nextTrial_59 : decode cX9_nextTrial 59 = .ok (.iload 10, 2) := by decide +kernel
theorem dX9_nextTrial_61 : decode cX9_nextTrial 61 = .ok (.isub, 1) := by decide +kernel
theorem dX9_nextTrial_62 : decode cX9_nextTrial 62 = .ok (.invokestatic 60, 3) := by decide +kernel
theorem dX9_nextTrial_65 : decode cX9_nextTrial 65 = .ok (.istore 11, 2) := by decide +kernel
theorem dX9_nextTrial_67 : decode cX9_nextTrial 67 = .ok (.iload 11, 2) := by decide +kernel
theorem dX9_nextTrial_69 : decode cX9_nextTrial 69 = .ok (.iload 7, 2) := by decide +kernel
theorem dX9_nextTrial_71 : decode cX9_nextTrial 71 = .ok (.if_icmp .ge 17, 3) := by decide +kernel
theorem dX9_nextTrial_74 : decode cX9_nextTrial 74 = .ok (.iload 11, 2) := by decide +kernel
theorem dX9_nextTrial_76 : decode cX9_nextTrial 76 = .ok (.istore 7, 2) := by decide +kernel
theorem dX9_nextTrial_78 : decode cX9_nextTrial 78 = .ok (.bipush 10, 2) := by decide +kernel
theorem dX9_nextTrial_80 : decode cX9_nextTrial 80 = .ok (.iload 8, 2) := by decide +kernel
theorem dX9_nextTrial_82 : decode cX9_nextTrial 82 = .ok (.imul, 1) := by decide +kernel
theorem dX9_nextTrial_83 : decode cX9_nextTrial 83 = .ok (.iload 9, 2) := by decide +kernel
theorem dX9_nextTrial_85 : decode cX9_nextTrial 85 = .ok (.iadd, 1) := by decide +kernel
theorem dX9_nextTrial_86 : decode cX9_nextTrial 86 = .ok (.istore 6, 2) := by decide +kernel
theorem dX9_nextTrial_88 : decode cX9_nextTrial 88 = .ok (.iinc 9 1, 3) := by decide +kernel
theorem dX9_nextTrial_91 : decode cX9_nextTrial 91 = .ok (.goto (-54), 3) := by decide +kernel
theorem dX9_nextTrial_94 : decode cX9_nextTrial 94 = .ok (.iinc 8 1, 3) := by decide +kernel
theorem dX9_nextTrial_97 : decode cX9_nextTrial 97 = .ok (.goto (-69), 3) := by decide +kernel
theorem dX9_nextTrial_100 : decode cX9_nextTrial 100 = .ok (.iload_n 3, 1) := by decide +kernel
theorem dX9_nextTrial_101 : decode cX9_nextTrial 101 = .ok (.ifCond .ne 8, 3) := by decide +kernel
theorem dX9_nextTrial_104 : decode cX9_nextTrial 104 = .ok (.iload 6, 2) := by decide +kernel
theorem dX9_nextTrial_106 : decode cX9_nextTrial 106 = .ok (.goto 5, 3) := by decide +kernel
theorem dX9_nextTrial_109 : decode cX9_nextTrial 109 = .ok (.iload 7, 2) := by decide +kernel
theorem dX9_nextTrial_111 : decode cX9_nextTrial 111 = .ok (.ireturn, 1) := by decide +kernel
theorem dX10_feed_0 : decode cX10_feed 0 = .ok (.aload_n 0, 1) := by decide +kernel
theorem dX10_feed_1 : decode cX10_feed 1 = .ok (.getfield 12, 3) := by decide +kernel
theorem dX10_feed_4 : decode cX10_feed 4 = .ok (.getfield 82, 3) := by decide +kernel
theorem dX10_feed_7 : decode cX10_feed 7 = .ok (.bipush 20, 2) := by decide +kernel
theorem dX10_feed_9 : decode cX10_feed 9 = .ok (.iadd, 1) := by decide +kernel
theorem dX10_feed_10 : decode cX10_feed 10 = .ok (.sipush 1600, 3) := by decide +kernel
theorem dX10_feed_13 : decode cX10_feed 13 = .ok (.if_icmp .le 5, 3) := by decide +kernel
theorem dX10_feed_16 : decode cX10_feed 16 = .ok (.iconst (-1), 1) := by decide +kernel
theorem dX10_feed_17 : decode cX10_feed 17 = .ok (.ireturn, 1) := by decide +kernel
theorem dX10_feed_18 : decode cX10_feed 18 = .ok (.aload_n 0, 1) := by decide +kernel
theorem dX10_feed_19 : decode cX10_feed 19 = .ok (.getfield 12, 3) := by decide +kernel
theorem dX10_feed_22 : decode cX10_feed 22 = .ok (.iload_n 1, 1) := by decide +kernel
theorem dX10_feed_23 : decode cX10_feed 23 = .ok (.invokevirtual 85, 3) := by decide +kernel
theorem dX10_feed_26 : decode cX10_feed 26 = .ok (.aload_n 0, 1) := by decide +kernel
theorem dX10_feed_27 : decode cX10_feed 27 = .ok (.getfield 12, 3) := by decide +kernel
theorem dX10_feed_30 : decode cX10_feed 30 = .ok (.iload_n 2, 1) := by decide +kernel
theorem dX10_feed_31 : decode cX10_feed 31 = .ok (.invokevirtual 85, 3) := by decide +kernel
theorem dX10_feed_34 : decode cX10_feed 34 = .ok (.aload_n 0, 1) := by decide +kernel
theorem dX10_feed_35 : decode cX10_feed 35 = .ok (.getfield 12, 3) := by decide +kernel
theorem dX10_feed_38 : decode cX10_feed 38 = .ok (.iload_n 3, 1) := by decide +kernel
theorem dX10_feed_39 : decode cX10_feed 39 = .ok (.invokevirtual 85, 3) := by decide +kernel
theorem dX10_feed_42 : decode cX10_feed 42 = .ok (.aload_n 0, 1) := by decide +kernel
theorem dX10_feed_43 : decode cX10_feed 43 = .ok (.getfield 12, 3) := by decide +kernel
theorem dX10_feed_46 : decode cX10_feed 46 = .ok (.iload 4, 2) := by decide +kernel
theorem dX10_feed_48 : decode cX10_feed 48 = .ok (.invokevirtual 85, 3) := by decide +kernel
theorem dX10_feed_51 : decode cX10_feed 51 = .ok (.aload_n 0, 1) := by decide +kernel
theorem dX10_feed_52 : decode cX10_feed 52 = .ok (.getfield 12, 3) := by decide +kernel
theorem dX10_feed_55 : decode cX10_feed 55 = .ok (.iload 5, 2) := by decide +kernel
theorem dX10_feed_57 : decode cX10_feed 57 = .ok (.invokevirtual 85, 3) := by decide +kernel
theorem dX10_feed_60 : decode cX10_feed 60 = .ok (.aload_n 0, 1) := by decide +kernel
theorem dX10_feed_61 : decode cX10_feed 61 = .ok (.getfield 12, 3) := by decide +kernel
theorem dX10_feed_64 : decode cX10_feed 64 = .ok (.getfield 82, 3) := by decide +kernel
theorem dX10_feed_67 : decode cX10_feed 67 = .ok (.ireturn, 1) := by decide +kernel
theorem dX10_end_0 : decode cX10_end 0 = .ok (.iload_n 1, 1) := by decide +kernel
theorem dX10_end_1 : decode cX10_end 1 = .ok (.ifCond .lt 14, 3) := by decide +kernel
theorem dX10_end_4 : decode cX10_end 4 = .ok (.iload_n 1, 1) := by decide +kernel
theorem dX10_end_5 : decode cX10_end 5 = .ok (.aload_n 0, 1) := by decide +kernel
theorem dX10_end_6 : decode cX10_end 6 = .ok (.getfield 12, 3) := by decide +kernel
theorem dX10_end_9 : decode cX10_end 9 = .ok (.getfield 82, 3) := by decide +kernel
theorem dX10_end_12 : decode cX10_end 12 = .ok (.if_icmp .le 5, 3) := by decide +kernel
theorem dX10_end_15 : decode cX10_end 15 = .ok (.iconst (-1), 1) := by decide +kernel
theorem dX10_end_16 : decode cX10_end 16 = .ok (.ireturn, 1) := by decide +kernel
theorem dX10_end_17 : decode cX10_end 17 = .ok (.aload_n 0, 1) := by decide +kernel
theorem dX10_end_18 : decode cX10_end 18 = .ok (.getfield 12, 3) := by decide +kernel
theorem dX10_end_21 : decode cX10_end 21 = .ok (.iload_n 1, 1) := by decide +kernel
theorem dX10_end_22 : decode cX10_end 22 = .ok (.putfield 82, 3) := by decide +kernel
theorem dX10_end_25 : decode cX10_end 25 = .ok (.iload_n 1, 1) := by decide +kernel
theorem dX10_end_26 : decode cX10_end 26 = .ok (.ireturn, 1) := by decide +kernel
theorem dX10_fault_0 : decode cX10_fault 0 = .ok (.iload_n 1, 1) := by decide +kernel
theorem dX10_fault_1 : decode cX10_fault 1 = .ok (.ifCond .ne 11, 3) := by decide +kernel
theorem dX10_fault_4 : decode cX10_fault 4 = .ok (.aload_n 0, 1) := by decide +kernel
theorem dX10_fault_5 : decode cX10_fault 5 = .ok (.getfield 21, 3) := by decide +kernel
theorem dX10_fault_8 : decode cX10_fault 8 = .ok (.getfield 117, 3) := by decide +kernel
theorem dX10_fault_11 : decode cX10_fault 11 = .ok (.ireturn, 1) := by decide +kernel
theorem dX10_fault_12 : decode cX10_fault 12 = .ok (.iload_n 1, 1) := by decide +kernel
theorem dX10_fault_13 : decode cX10_fault 13 = .ok (.iconst 1, 1) := by decide +kernel
theorem dX10_fault_14 : decode cX10_fault 14 = .ok (.if_icmp .ne 13, 3) := by decide +kernel
theorem dX10_fault_17 : decode cX10_fault 17 = .ok (.aload_n 0, 1) := by decide +kernel
theorem dX10_fault_18 : decode cX10_fault 18 = .ok (.getfield 21, 3) := by decide +kernel
theorem dX10_fault_21 : decode cX10_fault 21 = .ok (.getfield 120, 3) := by decide +kernel
theorem dX10_fault_24 : decode cX10_fault 24 = .ok (.goto 4, 3) := by decide +kernel
theorem dX10_fault_27 : decode cX10_fault 27 = .ok (.iconst (-1), 1) := by decide +kernel
theorem dX10_fault_28 : decode cX10_fault 28 = .ok (.ireturn, 1) := by decide +kernel
theorem dX10_isFood_0 : decode cX10_isFood 0 = .ok (.iload_n 1, 1) := by decide +kernel
theorem dX10_isFood_1 : decode cX10_isFood 1 = .ok (.ifCond .lt 18, 3) := by decide +kernel
theorem dX10_isFood_4 : decode cX10_isFood 4 = .ok (.iload_n 1, 1) := by decide +kernel
theorem dX10_isFood_5 : decode cX10_isFood 5 = .ok (.aload_n 0, 1) := by decide +kernel
theorem dX10_isFood_6 : decode cX10_isFood 6 = .ok (.getfield 28, 3) := by decide +kernel
theorem dX10_isFood_9 : decode cX10_isFood 9 = .ok (.getfield 263, 3) := by decide +kernel
theorem dX10_isFood_12 : decode cX10_isFood 12 = .ok (.if_icmp .ge 7, 3) := by decide +kernel
theorem dX10_isFood_15 : decode cX10_isFood 15 = .ok (.iconst 1, 1) := by decide +kernel
theorem dX10_isFood_16 : decode cX10_isFood 16 = .ok (.goto 4, 3) := by decide +kernel
theorem dX10_isFood_19 : decode cX10_isFood 19 = .ok (.iconst 0, 1) := by decide +kernel
theorem dX10_isFood_20 : decode cX10_isFood 20 = .ok (.ireturn, 1) := by decide +kernel
theorem dX10_store_0 : decode cX10_store 0 = .ok (.aload_n 0, 1) := by decide +kernel
theorem dX10_store_1 : decode cX10_store 1 = .ok (.iload_n 1, 1) := by decide +kernel
theorem dX10_store_2 : decode cX10_store 2 = .ok (.invokevirtual 123, 3) := by decide +kernel
theorem dX10_store_5 : decode cX10_store 5 = .ok (.ifCond .eq 20, 3) := by decide +kernel
theorem dX10_store_8 : decode cX10_store 8 = .ok (.aload_n 0, 1) := by decide +kernel
theorem dX10_store_9 : decode cX10_store 9 = .ok (.getfield 44, 3) := by decide +kernel
theorem dX10_store_12 : decode cX10_store 12 = .ok (.invokevirtual 127, 3) := by decide +kernel
theorem dX10_store_15 : decode cX10_store 15 = .ok (.getfield 131, 3) := by decide +kernel
theorem dX10_store_18 : decode cX10_store 18 = .ok (.iconst 0, 1) := by decide +kernel
theorem dX10_store_19 : decode cX10_store 19 = .ok (.iload_n 1, 1) := by decide +kernel
theorem dX10_store_20 : decode cX10_store 20 = .ok (.iadd, 1) := by decide +kernel
theorem dX10_store_21 : decode cX10_store 21 = .ok (.iaload, 1) := by decide +kernel
theorem dX10_store_22 : decode cX10_store 22 = .ok (.goto 4, 3) := by decide +kernel
theorem dX10_store_25 : decode cX10_store 25 = .ok (.iconst (-1), 1) := by decide +kernel
theorem dX10_store_26 : decode cX10_store 26 = .ok (.ireturn, 1) := by decide +kernel
theorem dX10_isMap_0 : decode cX10_isMap 0 = .ok (.iload_n 1, 1) := by decide +kernel
theorem dX10_isMap_1 : decode cX10_isMap 1 = .ok (.ifCond .lt 18, 3) := by decide +kernel
theorem dX10_isMap_4 : decode cX10_isMap 4 = .ok (.iload_n 1, 1) := by decide +kernel
theorem dX10_isMap_5 : decode cX10_isMap 5 = .ok (.aload_n 0, 1) := by decide +kernel
theorem dX10_isMap_6 : decode cX10_isMap 6 = .ok (.getfield 28, 3) := by decide +kernel
theorem dX10_isMap_9 : decode cX10_isMap 9 = .ok (.getfield 114, 3) := by decide +kernel
theorem dX10_isMap_12 : decode cX10_isMap 12 = .ok (.if_icmp .ge 7, 3) := by decide +kernel
theorem dX10_isMap_15 : decode cX10_isMap 15 = .ok (.iconst 1, 1) := by decide +kernel
theorem dX10_isMap_16 : decode cX10_isMap 16 = .ok (.goto 4, 3) := by decide +kernel
theorem dX10_isMap_19 : decode cX10_isMap 19 = .ok (.iconst 0, 1) := by decide +kernel
theorem dX10_isMap_20 : decode cX10_isMap 20 = .ok (.ireturn, 1) := by decide +kernel
theorem dX10_map_0 : decode cX10_map 0 = .ok (.aload_n 0, 1) := by decide +kernel
theorem dX10_map_1 : decode cX10_map 1 = .ok (.iload_n 1, 1) := by decide +kernel
theorem dX10_map_2 : decode cX10_map 2 = .ok (.invokevirtual 135, 3) := by decide +kernel
theorem dX10_map_5 : decode cX10_map 5 = .ok (.ifCond .ne 5, 3) := by decide +kernel
theorem dX10_map_8 : decode cX10_map 8 = .ok (.iconst (-1), 1) := by decide +kernel
theorem dX10_map_9 : decode cX10_map 9 = .ok (.ireturn, 1) := by decide +kernel
theorem dX10_map_10 : decode cX10_map 10 = .ok (.aload_n 0, 1) := by decide +kernel
theorem dX10_map_11 : decode cX10_map 11 = .ok (.getfield 44, 3) := by decide +kernel
theorem dX10_map_14 : decode cX10_map 14 = .ok (.invokevirtual 127, 3) := by decide +kernel
theorem dX10_map_17 : decode cX10_map 17 = .ok (.astore_n 3, 1) := by decide +kernel
theorem dX10_map_18 : decode cX10_map 18 = .ok (.iload_n 2, 1) := by decide +kernel
theorem dX10_map_19 : decode cX10_map 19 = .ok (.tableswitch 127 0 7 #[45, 55, 65, 75, 85, 97, 107, 117], 45) := by decide +kernel
theorem dX10_map_64 : decode cX10_map 64 = .ok (.aload_n 0, 1) := by decide +kernel
theorem dX10_map_65 : decode cX10_map 65 = .ok (.getfield 28, 3) := by decide +kernel
theorem dX10_map_68 : decode cX10_map 68 = .ok (.getfield 138, 3) := by decide +kernel
theorem dX10_map_71 : decode cX10_map 71 = .ok (.iload_n 1, 1) := by decide +kernel
theorem dX10_map_72 : decode cX10_map 72 = .ok (.iaload, 1) := by decide +kernel
theorem dX10_map_73 : decode cX10_map 73 = .ok (.ireturn, 1) := by decide +kernel
theorem dX10_map_74 : decode cX10_map 74 = .ok (.aload_n 0, 1) := by decide +kernel
theorem dX10_map_75 : decode cX10_map 75 = .ok (.getfield 37, 3) := by decide +kernel
theorem dX10_map_78 : decode cX10_map 78 = .ok (.aload_n 3, 1) := by decide +kernel
theorem dX10_map_79 : decode cX10_map 79 = .ok (.iload_n 1, 1) := by decide +kernel
theorem dX10_map_80 : decode cX10_map 80 = .ok (.invokevirtual 141, 3) := by decide +kernel
theorem dX10_map_83 : decode cX10_map 83 = .ok (.ireturn, 1) := by decide +kernel
theorem dX10_map_84 : decode cX10_map 84 = .ok (.aload_n 0, 1) := by decide +kernel
theorem dX10_map_85 : decode cX10_map 85 = .ok (.getfield 37, 3) := by decide +kernel
theorem dX10_map_88 : decode cX10_map 88 = .ok (.aload_n 3, 1) := by decide +kernel
theorem dX10_map_89 : decode cX10_map 89 = .ok (.iload_n 1, 1) := by decide +kernel
theorem dX10_map_90 : decode cX10_map 90 = .ok (.invokevirtual 145, 3) := by decide +kernel
theorem dX10_map_93 : decode cX10_map 93 = .ok (.ireturn, 1) := by decide +kernel
theorem dX10_map_94 : decode cX10_map 94 = .ok (.aload_n 3, 1) := by decide +kernel
theorem dX10_map_95 : decode cX10_map 95 = .ok (.getfield 131, 3) := by decide +kernel
theorem dX10_map_98 : decode cX10_map 98 = .ok (.bipush 31, 2) := by decide +kernel
theorem dX10_map_100 : decode cX10_map 100 = .ok (.iload_n 1, 1) := by decide +kernel
theorem dX10_map_101 : decode cX10_map 101 = .ok (.iadd, 1) := by decide +kernel
theorem dX10_map_102 : decode cX10_map 102 = .ok (.iaload, 1) := by decide +kernel
theorem dX10_map_103 : decode cX10_map 103 = .ok (.ireturn, 1) := by decide +kernel
theorem dX10_map_104 : decode cX10_map 104 = .ok (.aload_n 3, 1) := by decide +kernel
theorem dX10_map_105 : decode cX10_map 105 = .ok (.getfield 131, 3) := by decide +kernel
theorem dX10_map_108 : decode cX10_map 108 = .ok (.bipush 39, 2) := by decide +kernel
theorem dX10_map_110 : decode cX10_map 110 = .ok (.iaload, 1) := by decide +kernel
theorem dX10_map_111 : decode cX10_map 111 = .ok (.iload_n 1, 1) := by decide +kernel
theorem dX10_map_112 : decode cX10_map 112 = .ok (.ishr, 1) := by decide +kernel
theorem dX10_map_113 : decode cX10_map 113 = .ok (.iconst 1, 1) := by decide +kernel
theorem dX10_map_114 : decode cX10_map 114 = .ok (.iand, 1) := by decide +kernel
theorem dX10_map_115 : decode cX10_map 115 = .ok (.ireturn, 1) := by decide +kernel
theorem dX10_map_116 : decode cX10_map 116 = .ok (.aload_n 3, 1) := by decide +kernel
theorem dX10_map_117 : decode cX10_map 117 = .ok (.getfield 131, 3) := by decide +kernel
theorem dX10_map_120 : decode cX10_map 120 = .ok (.bipush 35, 2) := by decide +kernel
theorem dX10_map_122 : decode cX10_map 122 = .ok (.iload_n 1, 1) := by decide +kernel
theorem dX10_map_123 : decode cX10_map 123 = .ok (.iadd, 1) := by decide +kernel
theorem dX10_map_124 : decode cX10_map 124 = .ok (.iaload, 1) := by decide +kernel
theorem dX10_map_125 : decode cX10_map 125 = .ok (.ireturn, 1) := by decide +kernel
theorem dX10_map_126 : decode cX10_map 126 = .ok (.aload_n 0, 1) := by decide +kernel
theorem dX10_map_127 : decode cX10_map 127 = .ok (.getfield 28, 3) := by decide +kernel
theorem dX10_map_130 : decode cX10_map 130 = .ok (.getfield 148, 3) := by decide +kernel
theorem dX10_map_133 : decode cX10_map 133 = .ok (.iload_n 1, 1) := by decide +kernel
theorem dX10_map_134 : decode cX10_map 134 = .ok (.iaload, 1) := by decide +kernel
theorem dX10_map_135 : decode cX10_map 135 = .ok (.ireturn, 1) := by decide +kernel
theorem dX10_map_136 : decode cX10_map 136 = .ok (.aload_n 0, 1) := by decide +kernel
theorem dX10_map_137 : decode cX10_map 137 = .ok (.getfield 28, 3) := by decide +kernel
theorem dX10_map_140 : decode cX10_map 140 = .ok (.getfield 151, 3) := by decide +kernel
theorem dX10_map_143 : decode cX10_map 143 = .ok (.iload_n 1, 1) := by decide +kernel
theorem dX10_map_144 : decode cX10_map 144 = .ok (.iaload, 1) := by decide +kernel
theorem dX10_map_145 : decode cX10_map 145 = .ok (.ireturn, 1) := by decide +kernel
theorem dX10_map_146 : decode cX10_map 146 = .ok (.iconst (-1), 1) := by decide +kernel
theorem dX10_map_147 : decode cX10_map 147 = .ok (.ireturn, 1) := by decide +kernel
theorem dX10_isPlace_0 : decode cX10_isPlace 0 = .ok (.iload_n 1, 1) := by decide +kernel
theorem dX10_isPlace_1 : decode cX10_isPlace 1 = .ok (.ifCond .lt 18, 3) := by decide +kernel
theorem dX10_isPlace_4 : decode cX10_isPlace 4 = .ok (.iload_n 1, 1) := by decide +kernel
theorem dX10_isPlace_5 : decode cX10_isPlace 5 = .ok (.aload_n 0, 1) := by decide +kernel
theorem dX10_isPlace_6 : decode cX10_isPlace 6 = .ok (.getfield 28, 3) := by decide +kernel
theorem dX10_isPlace_9 : decode cX10_isPlace 9 = .ok (.getfield 219, 3) := by decide +kernel
theorem dX10_isPlace_12 : decode cX10_isPlace 12 = .ok (.if_icmp .ge 7, 3) := by decide +kernel
theorem dX10_isPlace_15 : decode cX10_isPlace 15 = .ok (.iconst 1, 1) := by decide +kernel
theorem dX10_isPlace_16 : decode cX10_isPlace 16 = .ok (.goto 4, 3) := by decide +kernel
theorem dX10_isPlace_19 : decode cX10_isPlace 19 = .ok (.iconst 0, 1) := by decide +kernel
theorem dX10_isPlace_20 : decode cX10_isPlace 20 = .ok (.ireturn, 1) := by decide +kernel
theorem dX10_place_0 : decode cX10_place 0 = .ok (.aload_n 0, 1) := by decide +kernel
theorem dX10_place_1 : decode cX10_place 1 = .ok (.iload_n 1, 1) := by decide +kernel
theorem dX10_place_2 : decode cX10_place 2 = .ok (.invokevirtual 154, 3) := by decide +kernel
theorem dX10_place_5 : decode cX10_place 5 = .ok (.ifCond .ne 5, 3) := by decide +kernel
theorem dX10_place_8 : decode cX10_place 8 = .ok (.iconst (-1), 1) := by decide +kernel
theorem dX10_place_9 : decode cX10_place 9 = .ok (.ireturn, 1) := by decide +kernel
theorem dX10_place_10 : decode cX10_place 10 = .ok (.iload_n 2, 1) := by decide +kernel
theorem dX10_place_11 : decode cX10_place 11 = .ok (.tableswitch 81 0 3 #[29, 45, 55, 71], 29) := by decide +kernel
theorem dX10_place_40 : decode cX10_place 40 = .ok (.aload_n 0, 1) := by decide +kernel
theorem dX10_place_41 : decode cX10_place 41 = .ok (.getfield 44, 3) := by decide +kernel
theorem dX10_place_44 : decode cX10_place 44 = .ok (.invokevirtual 127, 3) := by decide +kernel
theorem dX10_place_47 : decode cX10_place 47 = .ok (.getfield 131, 3) := by decide +kernel
theorem dX10_place_50 : decode cX10_place 50 = .ok (.bipush 15, 2) := by decide +kernel
theorem dX10_place_52 : decode cX10_place 52 = .ok (.iload_n 1, 1) := by decide +kernel
theorem dX10_place_53 : decode cX10_place 53 = .ok (.iadd, 1) := by decide +kernel
theorem dX10_place_54 : decode cX10_place 54 = .ok (.iaload, 1) := by decide +kernel
theorem dX10_place_55 : decode cX10_place 55 = .ok (.ireturn, 1) := by decide +kernel
theorem dX10_place_56 : decode cX10_place 56 = .ok (.aload_n 0, 1) := by decide +kernel
theorem dX10_place_57 : decode cX10_place 57 = .ok (.getfield 28, 3) := by decide +kernel
theorem dX10_place_60 : decode cX10_place 60 = .ok (.getfield 157, 3) := by decide +kernel
theorem dX10_place_63 : decode cX10_place 63 = .ok (.iload_n 1, 1) := by decide +kernel
theorem dX10_place_64 : decode cX10_place 64 = .ok (.iaload, 1) := by decide +kernel
theorem dX10_place_65 : decode cX10_place 65 = .ok (.ireturn, 1) := by decide +kernel
theorem dX10_place_66 : decode cX10_place 66 = .ok (.aload_n 0, 1) := by decide +kernel
theorem dX10_place_67 : decode cX10_place 67 = .ok (.getfield 44, 3) := by decide +kernel
theorem dX10_place_70 : decode cX10_place 70 = .ok (.invokevirtual 127, 3) := by decide +kernel
theorem dX10_place_73 : decode cX10_place 73 = .ok (.getfield 131, 3) := by decide +kernel
theorem dX10_place_76 : decode cX10_place 76 = .ok (.bipush 23, 2) := by decide +kernel
theorem dX10_place_78 : decode cX10_place 78 = .ok (.iload_n 1, 1) := by decide +kernel
theorem dX10_place_79 : decode cX10_place 79 = .ok (.iadd, 1) := by decide +kernel
theorem dX10_place_80 : decode cX10_place 80 = .ok (.iaload, 1) := by decide +kernel
theorem dX10_place_81 : decode cX10_place 81 = .ok (.ireturn, 1) := by decide +kernel
theorem dX10_place_82 : decode cX10_place 82 = .ok (.aload_n 0, 1) := by decide +kernel
theorem dX10_place_83 : decode cX10_place 83 = .ok (.getfield 28, 3) := by decide +kernel
theorem dX10_place_86 : decode cX10_place 86 = .ok (.getfield 160, 3) := by decide +kernel
theorem dX10_place_89 : decode cX10_place 89 = .ok (.iload_n 1, 1) := by decide +kernel
theorem dX10_place_90 : decode cX10_place 90 = .ok (.iaload, 1) := by decide +kernel
theorem dX10_place_91 : decode cX10_place 91 = .ok (.ireturn, 1) := by decide +kernel
theorem dX10_place_92 : decode cX10_place 92 = .ok (.iconst (-1), 1) := by decide +kernel
theorem dX10_place_93 : decode cX10_place 93 = .ok (.ireturn, 1) := by decide +kernel
theorem dX10_taste_0 : decode cX10_taste 0 = .ok (.aload_n 0, 1) := by decide +kernel
theorem dX10_taste_1 : decode cX10_taste 1 = .ok (.iload_n 1, 1) := by decide +kernel
theorem dX10_taste_2 : decode cX10_taste 2 = .ok (.invokevirtual 154, 3) := by decide +kernel
theorem dX10_taste_5 : decode cX10_taste 5 = .ok (.ifCond .eq 11, 3) := by decide +kernel
theorem dX10_taste_8 : decode cX10_taste 8 = .ok (.aload_n 0, 1) := by decide +kernel
theorem dX10_taste_9 : decode cX10_taste 9 = .ok (.iload_n 2, 1) := by decide +kernel
theorem dX10_taste_10 : decode cX10_taste 10 = .ok (.invokevirtual 135, 3) := by decide +kernel
theorem dX10_taste_13 : decode cX10_taste 13 = .ok (.ifCond .ne 6, 3) := by decide +kernel
theorem dX10_taste_16 : decode cX10_taste 16 = .ok (.ldc 163, 2) := by decide +kernel
theorem dX10_taste_18 : decode cX10_taste 18 = .ok (.ireturn, 1) := by decide +kernel
theorem dX10_taste_19 : decode cX10_taste 19 = .ok (.aload_n 0, 1) := by decide +kernel
theorem dX10_taste_20 : decode cX10_taste 20 = .ok (.getfield 37, 3) := by decide +kernel
theorem dX10_taste_23 : decode cX10_taste 23 = .ok (.aload_n 0, 1) := by decide +kernel
theorem dX10_taste_24 : decode cX10_taste 24 = .ok (.getfield 44, 3) := by decide +kernel
theorem dX10_taste_27 : decode cX10_taste 27 = .ok (.invokevirtual 127, 3) := by decide +kernel
theorem dX10_taste_30 : decode cX10_taste 30 = .ok (.iload_n 1, 1) := by decide +kernel
theorem dX10_taste_31 : decode cX10_taste 31 = .ok (.iload_n 2, 1) := by decide +kernel
theorem dX10_taste_32 : decode cX10_taste 32 = .ok (.invokevirtual 164, 3) := by decide +kernel
theorem dX10_taste_35 : decode cX10_taste 35 = .ok (.ireturn, 1) := by decide +kernel
theorem dX10_likes_0 : decode cX10_likes 0 = .ok (.aload_n 0, 1) := by decide +kernel
theorem dX10_likes_1 : decode cX10_likes 1 = .ok (.iload_n 1, 1) := by decide +kernel
theorem dX10_likes_2 : decode cX10_likes 2 = .ok (.invokevirtual 135, 3) := by decide +kernel
theorem dX10_likes_5 : decode cX10_likes 5 = .ok (.ifCond .eq 27, 3) := by decide +kernel
theorem dX10_likes_8 : decode cX10_likes 8 = .ok (.aload_n 0, 1) := by decide +kernel
theorem dX10_likes_9 : decode cX10_likes 9 = .ok (.iload_n 2, 1) := by decide +kernel
theorem dX10_likes_10 : decode cX10_likes 10 = .ok (.invokevirtual 123, 3) := by decide +kernel
theorem dX10_likes_13 : decode cX10_likes 13 = .ok (.ifCond .eq 19, 3) := by decide +kernel
theorem dX10_likes_16 : decode cX10_likes 16 = .ok (.aload_n 0, 1) := by decide +kernel
theorem dX10_likes_17 : decode cX10_likes 17 = .ok (.getfield 28, 3) := by decide +kernel
theorem dX10_likes_20 : decode cX10_likes 20 = .ok (.getfield 168, 3) := by decide +kernel
theorem dX10_likes_23 : decode cX10_likes 23 = .ok (.iload_n 1, 1) := by decide +kernel
theorem dX10_likes_24 : decode cX10_likes 24 = .ok (.iconst 3, 1) := by decide +kernel
theorem dX10_likes_25 : decode cX10_likes 25 = .ok (.imul, 1) := by decide +kernel
theorem dX10_likes_26 : decode cX10_likes 26 = .ok (.iload_n 2, 1) := by decide +kernel
theorem dX10_likes_27 : decode cX10_likes 27 = .ok (.iadd, 1) := by decide +kernel
theorem dX10_likes_28 : decode cX10_likes 28 = .ok (.iaload, 1) := by decide +kernel
theorem dX10_likes_29 : decode cX10_likes 29 = .ok (.goto 4, 3) := by decide +kernel
theorem dX10_likes_32 : decode cX10_likes 32 = .ok (.iconst (-1), 1) := by decide +kernel
theorem dX10_likes_33 : decode cX10_likes 33 = .ok (.ireturn, 1) := by decide +kernel
theorem dX10_trough_0 : decode cX10_trough 0 = .ok (.aload_n 0, 1) := by decide +kernel
theorem dX10_trough_1 : decode cX10_trough 1 = .ok (.iload_n 1, 1) := by decide +kernel
theorem dX10_trough_2 : decode cX10_trough 2 = .ok (.invokevirtual 135, 3) := by decide +kernel
theorem dX10_trough_5 : decode cX10_trough 5 = .ok (.ifCond .eq 32, 3) := by decide +kernel
theorem dX10_trough_8 : decode cX10_trough 8 = .ok (.aload_n 0, 1) := by decide +kernel
theorem dX10_trough_9 : decode cX10_trough 9 = .ok (.iload_n 2, 1) := by decide +kernel
theorem dX10_trough_10 : decode cX10_trough 10 = .ok (.invokevirtual 123, 3) := by decide +kernel
theorem dX10_trough_13 : decode cX10_trough 13 = .ok (.ifCond .eq 24, 3) := by decide +kernel
theorem dX10_trough_16 : decode cX10_trough 16 = .ok (.aload_n 0, 1) := by decide +kernel
theorem dX10_trough_17 : decode cX10_trough 17 = .ok (.getfield 44, 3) := by decide +kernel
theorem dX10_trough_20 : decode cX10_trough 20 = .ok (.invokevirtual 127, 3) := by decide +kernel
theorem dX10_trough_23 : decode cX10_trough 23 = .ok (.getfield 131, 3) := by decide +kernel
theorem dX10_trough_26 : decode cX10_trough 26 = .ok (.iconst 3, 1) := by decide +kernel
theorem dX10_trough_27 : decode cX10_trough 27 = .ok (.iload_n 1, 1) := by decide +kernel
theorem dX10_trough_28 : decode cX10_trough 28 = .ok (.iconst 3, 1) := by decide +kernel
theorem dX10_trough_29 : decode cX10_trough 29 = .ok (.imul, 1) := by decide +kernel
theorem dX10_trough_30 : decode cX10_trough 30 = .ok (.iadd, 1) := by decide +kernel
theorem dX10_trough_31 : decode cX10_trough 31 = .ok (.iload_n 2, 1) := by decide +kernel
theorem dX10_trough_32 : decode cX10_trough 32 = .ok (.iadd, 1) := by decide +kernel
theorem dX10_trough_33 : decode cX10_trough 33 = .ok (.iaload, 1) := by decide +kernel
theorem dX10_trough_34 : decode cX10_trough 34 = .ok (.goto 4, 3) := by decide +kernel
theorem dX10_trough_37 : decode cX10_trough 37 = .ok (.iconst (-1), 1) := by decide +kernel
theorem dX10_trough_38 : decode cX10_trough 38 = .ok (.ireturn, 1) := by decide +kernel
theorem dX10_give_0 : decode cX10_give 0 = .ok (.aload_n 0, 1) := by decide +kernel
theorem dX10_give_1 : decode cX10_give 1 = .ok (.iload_n 1, 1) := by decide +kernel
theorem dX10_give_2 : decode cX10_give 2 = .ok (.invokevirtual 135, 3) := by decide +kernel
theorem dX10_give_5 : decode cX10_give 5 = .ok (.ifCond .eq 40, 3) := by decide +kernel
theorem dX10_give_8 : decode cX10_give 8 = .ok (.aload_n 0, 1) := by decide +kernel
theorem dX10_give_9 : decode cX10_give 9 = .ok (.iload_n 2, 1) := by decide +kernel
theorem dX10_give_10 : decode cX10_give 10 = .ok (.invokevirtual 123, 3) := by decide +kernel
theorem dX10_give_13 : decode cX10_give 13 = .ok (.ifCond .eq 32, 3) := by decide +kernel
theorem dX10_give_16 : decode cX10_give 16 = .ok (.iload_n 3, 1) := by decide +kernel
theorem dX10_give_17 : decode cX10_give 17 = .ok (.iconst 1, 1) := by decide +kernel
theorem dX10_give_18 : decode cX10_give 18 = .ok (.if_icmp .lt 27, 3) := by decide +kernel
theorem dX10_give_21 : decode cX10_give 21 = .ok (.iload_n 3, 1) := by decide +kernel
theorem dX10_give_22 : decode cX10_give 22 = .ok (.bipush 99, 2) := by decide +kernel
theorem dX10_give_24 : decode cX10_give 24 = .ok (.if_icmp .gt 21, 3) := by decide +kernel
theorem dX10_give_27 : decode cX10_give 27 = .ok (.iload_n 3, 1) := by decide +kernel
theorem dX10_give_28 : decode cX10_give 28 = .ok (.aload_n 0, 1) := by decide +kernel
theorem dX10_give_29 : decode cX10_give 29 = .ok (.getfield 44, 3) := by decide +kernel
theorem dX10_give_32 : decode cX10_give 32 = .ok (.invokevirtual 127, 3) := by decide +kernel
theorem dX10_give_35 : decode cX10_give 35 = .ok (.getfield 131, 3) := by decide +kernel
theorem dX10_give_38 : decode cX10_give 38 = .ok (.iconst 0, 1) := by decide +kernel
theorem dX10_give_39 : decode cX10_give 39 = .ok (.iload_n 2, 1) := by decide +kernel
theorem dX10_give_40 : decode cX10_give 40 = .ok (.iadd, 1) := by decide +kernel
theorem dX10_give_41 : decode cX10_give 41 = .ok (.iaload, 1) := by decide +kernel
theorem dX10_give_42 : decode cX10_give 42 = .ok (.if_icmp .le 5, 3) := by decide +kernel
theorem dX10_give_45 : decode cX10_give 45 = .ok (.iconst (-1), 1) := by decide +kernel
theorem dX10_give_46 : decode cX10_give 46 = .ok (.ireturn, 1) := by decide +kernel
theorem dX10_give_47 : decode cX10_give 47 = .ok (.aload_n 0, 1) := by decide +kernel
theorem dX10_give_48 : decode cX10_give 48 = .ok (.getfield 44, 3) := by decide +kernel
theorem dX10_give_51 : decode cX10_give 51 = .ok (.invokevirtual 171, 3) := by decide +kernel
theorem dX10_give_54 : decode cX10_give 54 = .ok (.astore 4, 2) := by decide +kernel
theorem dX10_give_56 : decode cX10_give 56 = .ok (.aload 4, 2) := by decide +kernel
theorem dX10_give_58 : decode cX10_give 58 = .ok (.getfield 131, 3) := by decide +kernel
theorem dX10_give_61 : decode cX10_give 61 = .ok (.iconst 0, 1) := by decide +kernel
theorem dX10_give_62 : decode cX10_give 62 = .ok (.iload_n 2, 1) := by decide +kernel
theorem dX10_give_63 : decode cX10_give 63 = .ok (.iadd, 1) := by decide +kernel
theorem dX10_give_64 : decode cX10_give 64 = .ok (.dup2, 1) := by decide +kernel
theorem dX10_give_65 : decode cX10_give 65 = .ok (.iaload, 1) := by decide +kernel
theorem dX10_give_66 : decode cX10_give 66 = .ok (.iload_n 3, 1) := by decide +kernel
theorem dX10_give_67 : decode cX10_give 67 = .ok (.isub, 1) := by decide +kernel
theorem dX10_give_68 : decode cX10_give 68 = .ok (.iastore, 1) := by decide +kernel
theorem dX10_give_69 : decode cX10_give 69 = .ok (.aload 4, 2) := by decide +kernel
theorem dX10_give_71 : decode cX10_give 71 = .ok (.getfield 131, 3) := by decide +kernel
theorem dX10_give_74 : decode cX10_give 74 = .ok (.iconst 3, 1) := by decide +kernel
theorem dX10_give_75 : decode cX10_give 75 = .ok (.iload_n 1, 1) := by decide +kernel
theorem dX10_give_76 : decode cX10_give 76 = .ok (.iconst 3, 1) := by decide +kernel
theorem dX10_give_77 : decode cX10_give 77 = .ok (.imul, 1) := by decide +kernel
theorem dX10_give_78 : decode cX10_give 78 = .ok (.iadd, 1) := by decide +kernel
theorem dX10_give_79 : decode cX10_give 79 = .ok (.iload_n 2, 1) := by decide +kernel
theorem dX10_give_80 : decode cX10_give 80 = .ok (.iadd, 1) := by decide +kernel
theorem dX10_give_81 : decode cX10_give 81 = .ok (.dup2, 1) := by decide +kernel
theorem dX10_give_82 : decode cX10_give 82 = .ok (.iaload, 1) := by decide +kernel
theorem dX10_give_83 : decode cX10_give 83 = .ok (.iload_n 3, 1) := by decide +kernel
theorem dX10_give_84 : decode cX10_give 84 = .ok (.iadd, 1) := by decide +kernel
theorem dX10_give_85 : decode cX10_give 85 = .ok (.iastore, 1) := by decide +kernel
theorem dX10_give_86 : decode cX10_give 86 = .ok (.aload 4, 2) := by decide +kernel
theorem dX10_give_88 : decode cX10_give 88 = .ok (.getfield 131, 3) := by decide +kernel
theorem dX10_give_91 : decode cX10_give 91 = .ok (.iconst 0, 1) := by decide +kernel
theorem dX10_give_92 : decode cX10_give 92 = .ok (.iload_n 2, 1) := by decide +kernel
theorem dX10_give_93 : decode cX10_give 93 = .ok (.iadd, 1) := by decide +kernel
theorem dX10_give_94 : decode cX10_give 94 = .ok (.iaload, 1) := by decide +kernel
theorem dX10_give_95 : decode cX10_give 95 = .ok (.ireturn, 1) := by decide +kernel
theorem dX10_fold_0 : decode cX10_fold 0 = .ok (.aload_n 0, 1) := by decide +kernel
theorem dX10_fold_1 : decode cX10_fold 1 = .ok (.iload_n 1, 1) := by decide +kernel
theorem dX10_fold_2 : decode cX10_fold 2 = .ok (.invokevirtual 135, 3) := by decide +kernel
theorem dX10_fold_5 : decode cX10_fold 5 = .ok (.ifCond .ne 5, 3) := by decide +kernel
theorem dX10_fold_8 : decode cX10_fold 8 = .ok (.iconst (-1), 1) := by decide +kernel
theorem dX10_fold_9 : decode cX10_fold 9 = .ok (.ireturn, 1) := by decide +kernel
theorem dX10_fold_10 : decode cX10_fold 10 = .ok (.aload_n 0, 1) := by decide +kernel
theorem dX10_fold_11 : decode cX10_fold 11 = .ok (.getfield 44, 3) := by decide +kernel
theorem dX10_fold_14 : decode cX10_fold 14 = .ok (.invokevirtual 171, 3) := by decide +kernel
theorem dX10_fold_17 : decode cX10_fold 17 = .ok (.astore_n 2, 1) := by decide +kernel
theorem dX10_fold_18 : decode cX10_fold 18 = .ok (.aload_n 2, 1) := by decide +kernel
theorem dX10_fold_19 : decode cX10_fold 19 = .ok (.getfield 131, 3) := by decide +kernel
theorem dX10_fold_22 : decode cX10_fold 22 = .ok (.bipush 39, 2) := by decide +kernel
theorem dX10_fold_24 : decode cX10_fold 24 = .ok (.dup2, 1) := by decide +kernel
theorem dX10_fold_25 : decode cX10_fold 25 = .ok (.iaload, 1) := by decide +kernel
theorem dX10_fold_26 : decode cX10_fold 26 = .ok (.iconst 1, 1) := by decide +kernel
theorem dX10_fold_27 : decode cX10_fold 27 = .ok (.iload_n 1, 1) := by decide +kernel
theorem dX10_fold_28 : decode cX10_fold 28 = .ok (.ishl, 1) := by decide +kernel
theorem dX10_fold_29 : decode cX10_fold 29 = .ok (.ixor, 1) := by decide +kernel
theorem dX10_fold_30 : decode cX10_fold 30 = .ok (.iastore, 1) := by decide +kernel
theorem dX10_fold_31 : decode cX10_fold 31 = .ok (.aload_n 2, 1) := by decide +kernel
theorem dX10_fold_32 : decode cX10_fold 32 = .ok (.getfield 131, 3) := by decide +kernel
theorem dX10_fold_35 : decode cX10_fold 35 = .ok (.bipush 39, 2) := by decide +kernel
theorem dX10_fold_37 : decode cX10_fold 37 = .ok (.iaload, 1) := by decide +kernel
theorem dX10_fold_38 : decode cX10_fold 38 = .ok (.iload_n 1, 1) := by decide +kernel
theorem dX10_fold_39 : decode cX10_fold 39 = .ok (.ishr, 1) := by decide +kernel
theorem dX10_fold_40 : decode cX10_fold 40 = .ok (.iconst 1, 1) := by decide +kernel
theorem dX10_fold_41 : decode cX10_fold 41 = .ok (.iand, 1) := by decide +kernel
theorem dX10_fold_42 : decode cX10_fold 42 = .ok (.ireturn, 1) := by decide +kernel
theorem dX10_put_0 : decode cX10_put 0 = .ok (.aload_n 0, 1) := by decide +kernel
theorem dX10_put_1 : decode cX10_put 1 = .ok (.iload_n 1, 1) := by decide +kernel
theorem dX10_put_2 : decode cX10_put 2 = .ok (.invokevirtual 135, 3) := by decide +kernel
theorem dX10_put_5 : decode cX10_put 5 = .ok (.ifCond .eq 12, 3) := by decide +kernel
theorem dX10_put_8 : decode cX10_put 8 = .ok (.iload_n 2, 1) := by decide +kernel
theorem dX10_put_9 : decode cX10_put 9 = .ok (.ifCond .lt 8, 3) := by decide +kernel
theorem dX10_put_12 : decode cX10_put 12 = .ok (.iload_n 2, 1) := by decide +kernel
theorem dX10_put_13 : decode cX10_put 13 = .ok (.iconst 4, 1) := by decide +kernel
theorem dX10_put_14 : decode cX10_put 14 = .ok (.if_icmp .lt 5, 3) := by decide +kernel
theorem dX10_put_17 : decode cX10_put 17 = .ok (.iconst (-1), 1) := by decide +kernel
theorem dX10_put_18 : decode cX10_put 18 = .ok (.ireturn, 1) := by decide +kernel
theorem dX10_put_19 : decode cX10_put 19 = .ok (.aload_n 0, 1) := by decide +kernel
theorem dX10_put_20 : decode cX10_put 20 = .ok (.getfield 44, 3) := by decide +kernel
theorem dX10_put_23 : decode cX10_put 23 = .ok (.invokevirtual 171, 3) := by decide +kernel
theorem dX10_put_26 : decode cX10_put 26 = .ok (.astore_n 3, 1) := by decide +kernel
theorem dX10_put_27 : decode cX10_put 27 = .ok (.aload_n 3, 1) := by decide +kernel
theorem dX10_put_28 : decode cX10_put 28 = .ok (.getfield 131, 3) := by decide +kernel
theorem dX10_put_31 : decode cX10_put 31 = .ok (.bipush 35, 2) := by decide +kernel
theorem dX10_put_33 : decode cX10_put 33 = .ok (.iload_n 1, 1) := by decide +kernel
theorem dX10_put_34 : decode cX10_put 34 = .ok (.iadd, 1) := by decide +kernel
theorem dX10_put_35 : decode cX10_put 35 = .ok (.iaload, 1) := by decide +kernel
theorem dX10_put_36 : decode cX10_put 36 = .ok (.istore 4, 2) := by decide +kernel
theorem dX10_put_38 : decode cX10_put 38 = .ok (.aload_n 3, 1) := by decide +kernel
theorem dX10_put_39 : decode cX10_put 39 = .ok (.getfield 131, 3) := by decide +kernel
theorem dX10_put_42 : decode cX10_put 42 = .ok (.bipush 35, 2) := by decide +kernel
theorem dX10_put_44 : decode cX10_put 44 = .ok (.iload_n 1, 1) := by decide +kernel
theorem dX10_put_45 : decode cX10_put 45 = .ok (.iadd, 1) := by decide +kernel
theorem dX10_put_46 : decode cX10_put 46 = .ok (.iload_n 2, 1) := by decide +kernel
theorem dX10_put_47 : decode cX10_put 47 = .ok (.iastore, 1) := by decide +kernel
theorem dX10_put_48 : decode cX10_put 48 = .ok (.iload 4, 2) := by decide +kernel
theorem dX10_put_50 : decode cX10_put 50 = .ok (.ireturn, 1) := by decide +kernel
theorem dX10_year_0 : decode cX10_year 0 = .ok (.aload_n 0, 1) := by decide +kernel
theorem dX10_year_1 : decode cX10_year 1 = .ok (.getfield 44, 3) := by decide +kernel
theorem dX10_year_4 : decode cX10_year 4 = .ok (.invokevirtual 127, 3) := by decide +kernel
theorem dX10_year_7 : decode cX10_year 7 = .ok (.astore_n 1, 1) := by decide +kernel
theorem dX10_year_8 : decode cX10_year 8 = .ok (.aload_n 1, 1) := by decide +kernel
theorem dX10_year_9 : decode cX10_year 9 = .ok (.getfield 131, 3) := by decide +kernel
theorem dX10_year_12 : decode cX10_year 12 = .ok (.bipush 40, 2) := by decide +kernel
theorem dX10_year_14 : decode cX10_year 14 = .ok (.iaload, 1) := by decide +kernel
theorem dX10_year_15 : decode cX10_year 15 = .ok (.sipush 999, 3) := by decide +kernel
theorem dX10_year_18 : decode cX10_year 18 = .ok (.if_icmp .lt 5, 3) := by decide +kernel
theorem dX10_year_21 : decode cX10_year 21 = .ok (.iconst (-1), 1) := by decide +kernel
theorem dX10_year_22 : decode cX10_year 22 = .ok (.ireturn, 1) := by decide +kernel
theorem dX10_year_23 : decode cX10_year 23 = .ok (.aload_n 0, 1) := by decide +kernel
theorem dX10_year_24 : decode cX10_year 24 = .ok (.getfield 44, 3) := by decide +kernel
theorem dX10_year_27 : decode cX10_year 27 = .ok (.invokevirtual 171, 3) := by decide +kernel
theorem dX10_year_30 : decode cX10_year 30 = .ok (.astore_n 2, 1) := by decide +kernel
theorem dX10_year_31 : decode cX10_year 31 = .ok (.aload_n 0, 1) := by decide +kernel
theorem dX10_year_32 : decode cX10_year 32 = .ok (.getfield 37, 3) := by decide +kernel
theorem dX10_year_35 : decode cX10_year 35 = .ok (.aload_n 2, 1) := by decide +kernel
theorem dX10_year_36 : decode cX10_year 36 = .ok (.invokevirtual 174, 3) := by decide +kernel
theorem dX10_year_39 : decode cX10_year 39 = .ok (.aload_n 0, 1) := by decide +kernel
theorem dX10_year_40 : decode cX10_year 40 = .ok (.getfield 37, 3) := by decide +kernel
theorem dX10_year_43 : decode cX10_year 43 = .ok (.aload_n 1, 1) := by decide +kernel
theorem dX10_year_44 : decode cX10_year 44 = .ok (.aload_n 2, 1) := by decide +kernel
theorem dX10_year_45 : decode cX10_year 45 = .ok (.invokevirtual 177, 3) := by decide +kernel
theorem dX10_year_48 : decode cX10_year 48 = .ok (.invokestatic 181, 3) := by decide +kernel
theorem dX10_year_51 : decode cX10_year 51 = .ok (.ireturn, 1) := by decide +kernel
set_option maxRecDepth 100000 in
theorem m_X9_countFitting (l : Launch) (D : va_G) (cT : Nat → ClassId) (T : Nat → Option Nat) (q : Nat → Int) (hq : qok q) (a0 : Nat) (t0 : T a0 = some 8) (y1 : Int32) (j1 : IV y1 0 3) (y2 : Int32) (j2 : IV y2 (-2147483648) 2147483647) : th_Met l D cT T (kd q) yX9_countFitting cX9_countFitting 10 (some .int) (rmk 2 49) [.ref a0, .int y1, .int y2] (th_R T (some (.inl (-2147483648, 2147483647)))) [45] := by
  refine th_start (by decide) (Nat.le_of_ble_eq_true rfl) ?_
  intro p e s m below meth c ls S hK hH hr hlocks hnm hl
  have hx := S.1
  have hb := S.2.1
  have hl : lv_has ls 10 [(0, .ref a0), (1, .int y1), (2, .int y2)] := hl
  have J51 : ∀ (n : Nat) (H : Heap) (locs : List Loc) (ls : Array Slot) (v51_3 : Int32) (v51_4 : Int32) (v51_5 : Int32) (v51_6 : Int32) (v51_7 : Int32), IV v51_3 1 6 → IV v51_4 1 6 → IV v51_5 1 6 → IV v51_6 (-2147483648) 2147483647 → IV v51_7 0 6 → th_H D cT T (kd q) H → va_S (th_A T [45]) s.heap H locs → lv_has ls 10 [(0, .ref a0), (2, .int y2), (3, .int v51_3), (4, .int v51_4), (5, .int v51_5), (6, .int v51_6), (7, .int v51_7)] → (6 + 1 - v51_7.toInt).toNat < n → W p l e (rmk 2 49) s m [.ref a0, .int y1, .int y2].toArray below meth c H locs 0 0 (MQ below (th_Q D cT T (kd q) (th_R T (some (.inl (-2147483648, 2147483647)))) [45]) [.ref a0, .int y1, .int y2].toArray s 0 0 (th_A T [45])) (F0 m 51 ls []) := by
    intro n
    induction n with
    | zero => intro H locs ls v51_3 v51_4 v51_5 v51_6 v51_7 iv51_3 iv51_4 iv51_5 iv51_6 iv51_7 hH hS hl hn; exact absurd hn (Nat.not_lt_zero _)
    | succ n ih51 =>
      intro H locs ls v51_3 v51_4 v51_5 v51_6 v51_7 iv51_3 iv51_4 iv51_5 iv51_6 iv51_7 hH hS hl hn51
      have J60 : ∀ (n : Nat) (H : Heap) (locs : List Loc) (ls : Array Slot) (v60_6 : Int32) (v60_8 : Int32), IV v60_6 (-2147483648) 2147483647 → IV v60_8 0 6 → IV v51_7 0 5 → th_H D cT T (kd q) H → va_S (th_A T [45]) s.heap H locs → lv_has ls 10 [(0, .ref a0), (2, .int y2), (3, .int v51_3), (4, .int v51_4), (5, .int v51_5), (6, .int v60_6), (7, .int v51_7), (8, .int v60_8)] → (6 + 1 - v60_8.toInt).toNat < n → W p l e (rmk 2 49) s m [.ref a0, .int y1, .int y2].toArray below meth c H locs 0 0 (MQ below (th_Q D cT T (kd q) (th_R T (some (.inl (-2147483648, 2147483647)))) [45]) [.ref a0, .int y1, .int y2].toArray s 0 0 (th_A T [45])) (F0 m 60 ls []) := by
        intro n
        induction n with
        | zero => intro H locs ls v60_6 v60_8 iv60_6 iv60_8 f60_v51_7 hH hS hl hn; exact absurd hn (Nat.not_lt_zero _)
        | succ n ih60 =>
          intro H locs ls v60_6 v60_8 iv60_6 iv60_8 f60_v51_7 hH hS hl hn60
          have J70 : ∀ (n : Nat) (H : Heap) (locs : List Loc) (ls : Array Slot) (v70_6 : Int32) (v70_9 : Int32), IV v70_6 (-2147483648) 2147483647 → IV v70_9 0 6 → IV v51_7 0 5 → IV v60_8 0 5 → th_H D cT T (kd q) H → va_S (th_A T [45]) s.heap H locs → lv_has ls 10 [(0, .ref a0), (2, .int y2), (3, .int v51_3), (4, .int v51_4), (5, .int v51_5), (6, .int v70_6), (7, .int v51_7), (8, .int v60_8), (9, .int v70_9)] → (6 + 1 - v70_9.toInt).toNat < n → W p l e (rmk 2 49) s m [.ref a0, .int y1, .int y2].toArray below meth c H locs 0 0 (MQ below (th_Q D cT T (kd q) (th_R T (some (.inl (-2147483648, 2147483647)))) [45]) [.ref a0, .int y1, .int y2].toArray s 0 0 (th_A T [45])) (F0 m 70 ls []) := by
            intro n
            induction n with
            | zero => intro H locs ls v70_6 v70_9 iv70_6 iv70_9 f70_v51_7 f70_v60_8 hH hS hl hn; exact absurd hn (Nat.not_lt_zero _)
            | succ n ih70 =>
              intro H locs ls v70_6 v70_9 iv70_6 iv70_9 f70_v51_7 f70_v60_8 hH hS hl hn70
              have J133 : ∀ (H : Heap) (locs : List Loc) (ls : Array Slot) (v133_6 : Int32), IV v133_6 (-2147483648) 2147483647 → IV v51_7 0 5 → IV v60_8 0 5 → IV v70_9 0 5 → th_H D cT T (kd q) H → va_S (th_A T [45]) s.heap H locs → lv_has ls 10 [(0, .ref a0), (2, .int y2), (3, .int v51_3), (4, .int v51_4), (5, .int v51_5), (6, .int v133_6), (7, .int v51_7), (8, .int v60_8), (9, .int v70_9)] → W p l e (rmk 2 49) s m [.ref a0, .int y1, .int y2].toArray below meth c H locs 0 0 (MQ below (th_Q D cT T (kd q) (th_R T (some (.inl (-2147483648, 2147483647)))) [45]) [.ref a0, .int y1, .int y2].toArray s 0 0 (th_A T [45])) (F0 m 133 ls []) := by
                intro H locs ls v133_6 iv133_6 f133_v51_7 f133_v60_8 f133_v70_9 hH hS hl
                refine th_iinc S dX9_countFitting_133 hl (k := 8) rfl (by decide) f133_v70_9 (by decide) (fun x1 ls ex1 ix1 hl => ?_)
                have hl : lv_has ls 10 [(9, .int x1), (0, .ref a0), (2, .int y2), (3, .int v51_3), (4, .int v51_4), (5, .int v51_5), (6, .int v133_6), (7, .int v51_7), (8, .int v60_8)] := hl
                have ix1 : IV x1 1 6 := ix1
                refine lv_goto (tgt := 70) hx hb dX9_countFitting_136 (by decide) ?_
                exact ih70 H locs ls v133_6 x1 iv133_6 (iv_w ix1 (by decide)) f133_v51_7 f133_v60_8 hH hS (lv_sub hl [1, 2, 3, 4, 5, 6, 7, 8, 0] rfl) (th_up iv70_9 ex1 (by decide) hn70)
              refine lv_iload hx hb dX9_countFitting_70 (lv_at hl 8 rfl) ?_
              refine lv_iload hx hb dX9_countFitting_72 (lv_at hl 4 rfl) ?_
              refine lv_icmp_ge (tgt := 139) hx hb dX9_countFitting_74 (by decide) (fun c2 => ?_) (fun c2 => ?_)
              · skip
                have ir3 : IV v70_9 1 6 := iv_vR iv51_5 iv70_9 (iv_le c2) (by decide)
                refine th_iinc S dX9_countFitting_139 hl (k := 7) rfl (by decide) f70_v60_8 (by decide) (fun x4 ls ex4 ix4 hl => ?_)
                have hl : lv_has ls 10 [(8, .int x4), (0, .ref a0), (2, .int y2), (3, .int v51_3), (4, .int v51_4), (5, .int v51_5), (6, .int v70_6), (7, .int v51_7), (9, .int v70_9)] := hl
                have ix4 : IV x4 1 6 := ix4
                refine lv_goto (tgt := 60) hx hb dX9_countFitting_142 (by decide) ?_
                exact ih60 H locs ls v70_6 x4 iv70_6 (iv_w ix4 (by decide)) f70_v51_7 hH hS (lv_sub hl [1, 2, 3, 4, 5, 6, 7, 0] rfl) (th_up iv60_8 ex4 (by decide) hn60)
              · skip
                have ir5 : IV v70_9 0 5 := iv_uL iv70_9 iv51_5 (iv_nle c2) (by decide)
                refine lv_aload_n hx hb dX9_countFitting_77 rfl (lv_at hl 0 rfl) ?_
                refine lv_iload hx hb dX9_countFitting_78 (lv_at hl 6 rfl) ?_
                refine lv_iload hx hb dX9_countFitting_80 (lv_at hl 7 rfl) ?_
                refine lv_iload hx hb dX9_countFitting_82 (lv_at hl 8 rfl) ?_
                refine lv_iload_n hx hb dX9_countFitting_84 rfl (lv_at hl 1 rfl) ?_
                refine th_callVi (n := 4) (As := [.int v51_7, .int v60_8, .int v70_9, .int y2]) S hK hH hS (th_A.sub (by decide)) (m_X9_fits l D cT T q hq a0 t0 (v51_7) (iv_top _) (v60_8) (iv_top _) (v70_9) (iv_top _) (y2) j2) gm_1172 gm_1169 gm_1171 gm_41 gm_123 (by decide +kernel) ⟨rfl, rfl, Nat.le_of_ble_eq_true rfl, Nat.le_of_ble_eq_true rfl⟩ t0 kd_8 rfl rfl hl.1 rfl (Nat.le_of_ble_eq_true rfl) dX9_countFitting_85 ⟨Nat.zero_le _, Nat.zero_le _⟩ (fun x6 H locs ix6 hH hS hF1 => ?_)
                refine lv_if_eq (tgt := 133) hx hb dX9_countFitting_88 (by decide) (fun c7 => ?_) (fun c7 => ?_)
                · skip
                  have ir8 : IV x6 0 0 := iv_eL c7 (iv_c (by decide) : IV 0 0 0)
                  exact J133 H locs ls v70_6 iv70_6 f70_v51_7 f70_v60_8 ir5 hH hS (lv_sub hl [0, 1, 2, 3, 4, 5, 6, 7, 8] rfl)
                · skip
                  have ir9 : IV x6 1 1 := iv_cutL ix6 (iv_c (by decide) : IV 0 0 0) c7 (by decide)
                  obtain ⟨x10, ex10⟩ : ∃ z : Int32, z = v70_6 + Int32.ofInt 1 := ⟨_, rfl⟩
                  refine lv_iinc (v := x10) (lv' := [(6, .int x10), (0, .ref a0), (2, .int y2), (3, .int v51_3), (4, .int v51_4), (5, .int v51_5), (7, .int v51_7), (8, .int v60_8), (9, .int v70_9)]) hx hb dX9_countFitting_91 hl (k := 5) rfl (by rw [ex10]) (by decide) rfl (fun ls hl => ?_)
                  have ix10 := iv_top x10
                  refine lv_aload_n hx hb dX9_countFitting_94 rfl (lv_at hl 1 rfl) ?_
                  refine th_get S hK hH inG9 t0 kd_8 rfl 5 (by decide) gm_480 rfl rfl dX9_countFitting_95 (fun v11 hv11 fv11 => ?_)
                  obtain ⟨rf12, rfl, trf12⟩ := th_V.ref hv11
                  refine lv_iload hx hb dX9_countFitting_98 (lv_at hl 6 rfl) ?_
                  refine lv_dup2_11 hx hb dX9_countFitting_100 rfl rfl ?_
                  refine th_iald S hK hH trf12 kd_45 (th_in (hi := 5) f70_v51_7 (by decide)) dX9_countFitting_101 (fun v13 hv13 => ?_)
                  obtain ⟨x14, rfl, ix14⟩ := th_V.int hv13
                  refine lv_iconst (v := 1) hx hb dX9_countFitting_102 (by decide) ?_
                  refine lv_iadd hx hb dX9_countFitting_103 ?_
                  refine lv_topi (fun x15 ex15 => ?_)
                  have ix15 := iv_top x15
                  refine th_iast S hK hH hS ⟨45, by decide, trf12⟩ trf12 kd_45 (th_in (hi := 5) f70_v51_7 (by decide)) (th_iv ix15) dX9_countFitting_104 (fun H locs hH hS hq1 => ?_)
                  have f16 := fv11.kept (hq1 _ (th_ne t0 trf12 (by decide)))
                  refine lv_aload_n hx hb dX9_countFitting_105 rfl (lv_at hl 1 rfl) ?_
                  refine th_getK S hK f16 inG9 rfl (by decide) gm_480 rfl dX9_countFitting_106 ?_
                  refine lv_bipush (v := 6) hx hb dX9_countFitting_109 (by decide) ?_
                  refine lv_iload hx hb dX9_countFitting_111 (lv_at hl 7 rfl) ?_
                  refine lv_iadd hx hb dX9_countFitting_113 ?_
                  refine lv_topi (fun x18 ex18 => ?_)
                  have ix18 : IV x18 6 11 := by rw [ex18]; exact iv_add (iv_c (by decide) : IV 6 6 6) f70_v60_8 (by decide)
                  refine lv_dup2_11 hx hb dX9_countFitting_114 rfl rfl ?_
                  refine th_iald S hK hH trf12 kd_45 (th_in (hi := 11) (iv_w ix18 (by decide)) (by decide)) dX9_countFitting_115 (fun v19 hv19 => ?_)
                  obtain ⟨x20, rfl, ix20⟩ := th_V.int hv19
                  refine lv_iconst (v := 1) hx hb dX9_countFitting_116 (by decide) ?_
                  refine lv_iadd hx hb dX9_countFitting_117 ?_
                  refine lv_topi (fun x21 ex21 => ?_)
                  have ix21 := iv_top x21
                  refine th_iast S hK hH hS ⟨45, by decide, trf12⟩ trf12 kd_45 (th_in (hi := 11) (iv_w ix18 (by decide)) (by decide)) (th_iv ix21) dX9_countFitting_118 (fun H locs hH hS hq1 => ?_)
                  have f22 := f16.kept (hq1 _ (th_ne t0 trf12 (by decide)))
                  refine lv_aload_n hx hb dX9_countFitting_119 rfl (lv_at hl 1 rfl) ?_
                  refine th_getK S hK f22 inG9 rfl (by decide) gm_480 rfl dX9_countFitting_120 ?_
                  refine lv_bipush (v := 12) hx hb dX9_countFitting_123 (by decide) ?_
                  refine lv_iload hx hb dX9_countFitting_125 (lv_at hl 8 rfl) ?_
                  refine lv_iadd hx hb dX9_countFitting_127 ?_
                  refine lv_topi (fun x24 ex24 => ?_)
                  have ix24 : IV x24 12 17 := by rw [ex24]; exact iv_add (iv_c (by decide) : IV 12 12 12) ir5 (by decide)
                  refine lv_dup2_11 hx hb dX9_countFitting_128 rfl rfl ?_
                  refine th_iald S hK hH trf12 kd_45 (th_in (hi := 17) (iv_w ix24 (by decide)) (by decide)) dX9_countFitting_129 (fun v25 hv25 => ?_)
                  obtain ⟨x26, rfl, ix26⟩ := th_V.int hv25
                  refine lv_iconst (v := 1) hx hb dX9_countFitting_130 (by decide) ?_
                  refine lv_iadd hx hb dX9_countFitting_131 ?_
                  refine lv_topi (fun x27 ex27 => ?_)
                  have ix27 := iv_top x27
                  refine th_iast S hK hH hS ⟨45, by decide, trf12⟩ trf12 kd_45 (th_in (hi := 17) (iv_w ix24 (by decide)) (by decide)) (th_iv ix27) dX9_countFitting_132 (fun H locs hH hS hq1 => ?_)
                  have f28 := f22.kept (hq1 _ (th_ne t0 trf12 (by decide)))
                  exact J133 H locs ls x10 ix10 f70_v51_7 f70_v60_8 ir5 hH hS (lv_sub hl [1, 2, 3, 4, 5, 0, 6, 7, 8] rfl)
          refine lv_iload hx hb dX9_countFitting_60 (lv_at hl 7 rfl) ?_
          refine lv_iload hx hb dX9_countFitting_62 (lv_at hl 3 rfl) ?_
          refine lv_icmp_ge (tgt := 145) hx hb dX9_countFitting_64 (by decide) (fun c29 => ?_) (fun c29 => ?_)
          · skip
            have ir30 : IV v60_8 1 6 := iv_vR iv51_4 iv60_8 (iv_le c29) (by decide)
            refine th_iinc S dX9_countFitting_145 hl (k := 6) rfl (by decide) f60_v51_7 (by decide) (fun x31 ls ex31 ix31 hl => ?_)
            have hl : lv_has ls 10 [(7, .int x31), (0, .ref a0), (2, .int y2), (3, .int v51_3), (4, .int v51_4), (5, .int v51_5), (6, .int v60_6), (8, .int v60_8)] := hl
            have ix31 : IV x31 1 6 := ix31
            refine lv_goto (tgt := 51) hx hb dX9_countFitting_148 (by decide) ?_
            exact ih51 H locs ls v51_3 v51_4 v51_5 v60_6 x31 iv51_3 iv51_4 iv51_5 iv60_6 (iv_w ix31 (by decide)) hH hS (lv_sub hl [1, 2, 3, 4, 5, 6, 0] rfl) (th_up iv51_7 ex31 (by decide) hn51)
          · skip
            have ir32 : IV v60_8 0 5 := iv_uL iv60_8 iv51_4 (iv_nle c29) (by decide)
            refine lv_iconst (v := 0) hx hb dX9_countFitting_67 (by decide) ?_
            refine lv_istore (lv' := [(9, .int 0), (0, .ref a0), (2, .int y2), (3, .int v51_3), (4, .int v51_4), (5, .int v51_5), (6, .int v60_6), (7, .int v51_7), (8, .int v60_8)]) hx hb dX9_countFitting_68 hl (by decide) rfl (fun ls hl => ?_)
            exact J70 ((6 + 1 - Int32.toInt 0).toNat + 1) H locs ls v60_6 0 iv60_6 (iv_w (iv_c (by decide) : IV 0 0 0) (by decide)) f60_v51_7 ir32 hH hS (lv_sub hl [1, 2, 3, 4, 5, 6, 7, 8, 0] rfl) (Nat.lt_succ_self _)
      refine lv_iload hx hb dX9_countFitting_51 (lv_at hl 6 rfl) ?_
      refine lv_iload_n hx hb dX9_countFitting_53 rfl (lv_at hl 2 rfl) ?_
      refine lv_icmp_ge (tgt := 151) hx hb dX9_countFitting_54 (by decide) (fun c33 => ?_) (fun c33 => ?_)
      · skip
        have ir34 : IV v51_7 1 6 := iv_vR iv51_3 iv51_7 (iv_le c33) (by decide)
        refine lv_iload hx hb dX9_countFitting_151 (lv_at hl 5 rfl) ?_
        exact th_iret S hK hH hS hr hlocks (th_R.i iv51_6) dX9_countFitting_153
      · skip
        have ir35 : IV v51_7 0 5 := iv_uL iv51_7 iv51_3 (iv_nle c33) (by decide)
        refine lv_iconst (v := 0) hx hb dX9_countFitting_57 (by decide) ?_
        refine lv_istore (lv' := [(8, .int 0), (0, .ref a0), (2, .int y2), (3, .int v51_3), (4, .int v51_4), (5, .int v51_5), (6, .int v51_6), (7, .int v51_7)]) hx hb dX9_countFitting_58 hl (by decide) rfl (fun ls hl => ?_)
        exact J60 ((6 + 1 - Int32.toInt 0).toNat + 1) H locs ls v51_6 0 iv51_6 (iv_w (iv_c (by decide) : IV 0 0 0) (by decide)) ir35 hH hS (lv_sub hl [1, 2, 3, 4, 5, 6, 7, 0] rfl) (Nat.lt_succ_self _)
  have J43_s0_1 : ∀ (H : Heap) (locs : List Loc) (ls : Array Slot) (v43_3 : Int32) (v43_4 : Int32), IV v43_3 1 6 → IV v43_4 1 6 → th_H D cT T (kd q) H → va_S (th_A T [45]) s.heap H locs → lv_has ls 10 [(0, .ref a0), (2, .int y2), (3, .int v43_3), (4, .int v43_4)] → W p l e (rmk 2 49) s m [.ref a0, .int y1, .int y2].toArray below meth c H locs 0 0 (MQ below (th_Q D cT T (kd q) (th_R T (some (.inl (-2147483648, 2147483647)))) [45]) [.ref a0, .int y1, .int y2].toArray s 0 0 (th_A T [45])) (F0 m 43 ls [.int 1]) := by
    intro H locs ls v43_3 v43_4 iv43_3 iv43_4 hH hS hl
    refine lv_istore (lv' := [(5, .int 1), (0, .ref a0), (2, .int y2), (3, .int v43_3), (4, .int v43_4)]) hx hb dX9_countFitting_43 hl (by decide) rfl (fun ls hl => ?_)
    refine lv_iconst (v := 0) hx hb dX9_countFitting_45 (by decide) ?_
    refine lv_istore (lv' := [(6, .int 0), (5, .int 1), (0, .ref a0), (2, .int y2), (3, .int v43_3), (4, .int v43_4)]) hx hb dX9_countFitting_46 hl (by decide) rfl (fun ls hl => ?_)
    refine lv_iconst (v := 0) hx hb dX9_countFitting_48 (by decide) ?_
    refine lv_istore (lv' := [(7, .int 0), (6, .int 0), (5, .int 1), (0, .ref a0), (2, .int y2), (3, .int v43_3), (4, .int v43_4)]) hx hb dX9_countFitting_49 hl (by decide) rfl (fun ls hl => ?_)
    exact J51 ((6 + 1 - Int32.toInt 0).toNat + 1) H locs ls v43_3 v43_4 1 0 0 iv43_3 iv43_4 (iv_w (iv_c (by decide) : IV 1 1 1) (by decide)) (iv_top _) (iv_w (iv_c (by decide) : IV 0 0 0) (by decide)) hH hS (lv_sub hl [3, 4, 5, 6, 2, 1, 0] rfl) (Nat.lt_succ_self _)
  have J43_s0_6 : ∀ (H : Heap) (locs : List Loc) (ls : Array Slot) (v43_3 : Int32) (v43_4 : Int32), IV v43_3 6 6 → IV v43_4 6 6 → th_H D cT T (kd q) H → va_S (th_A T [45]) s.heap H locs → lv_has ls 10 [(0, .ref a0), (2, .int y2), (3, .int v43_3), (4, .int v43_4)] → W p l e (rmk 2 49) s m [.ref a0, .int y1, .int y2].toArray below meth c H locs 0 0 (MQ below (th_Q D cT T (kd q) (th_R T (some (.inl (-2147483648, 2147483647)))) [45]) [.ref a0, .int y1, .int y2].toArray s 0 0 (th_A T [45])) (F0 m 43 ls [.int 6]) := by
    intro H locs ls v43_3 v43_4 iv43_3 iv43_4 hH hS hl
    refine lv_istore (lv' := [(5, .int 6), (0, .ref a0), (2, .int y2), (3, .int v43_3), (4, .int v43_4)]) hx hb dX9_countFitting_43 hl (by decide) rfl (fun ls hl => ?_)
    refine lv_iconst (v := 0) hx hb dX9_countFitting_45 (by decide) ?_
    refine lv_istore (lv' := [(6, .int 0), (5, .int 6), (0, .ref a0), (2, .int y2), (3, .int v43_3), (4, .int v43_4)]) hx hb dX9_countFitting_46 hl (by decide) rfl (fun ls hl => ?_)
    refine lv_iconst (v := 0) hx hb dX9_countFitting_48 (by decide) ?_
    refine lv_istore (lv' := [(7, .int 0), (6, .int 0), (5, .int 6), (0, .ref a0), (2, .int y2), (3, .int v43_3), (4, .int v43_4)]) hx hb dX9_countFitting_49 hl (by decide) rfl (fun ls hl => ?_)
    exact J51 ((6 + 1 - Int32.toInt 0).toNat + 1) H locs ls v43_3 v43_4 6 0 0 (iv_w iv43_3 (by decide)) (iv_w iv43_4 (by decide)) (iv_w (iv_c (by decide) : IV 6 6 6) (by decide)) (iv_top _) (iv_w (iv_c (by decide) : IV 0 0 0) (by decide)) hH hS (lv_sub hl [3, 4, 5, 6, 2, 1, 0] rfl) (Nat.lt_succ_self _)
  have J30_s0_1 : ∀ (H : Heap) (locs : List Loc) (ls : Array Slot) (v30_3 : Int32), IV v30_3 1 6 → IV y1 0 1 → th_H D cT T (kd q) H → va_S (th_A T [45]) s.heap H locs → lv_has ls 10 [(0, .ref a0), (1, .int y1), (2, .int y2), (3, .int v30_3)] → W p l e (rmk 2 49) s m [.ref a0, .int y1, .int y2].toArray below meth c H locs 0 0 (MQ below (th_Q D cT T (kd q) (th_R T (some (.inl (-2147483648, 2147483647)))) [45]) [.ref a0, .int y1, .int y2].toArray s 0 0 (th_A T [45])) (F0 m 30 ls [.int 1]) := by
    intro H locs ls v30_3 iv30_3 f30_y1 hH hS hl
    refine lv_istore (lv' := [(4, .int 1), (0, .ref a0), (1, .int y1), (2, .int y2), (3, .int v30_3)]) hx hb dX9_countFitting_30 hl (by decide) rfl (fun ls hl => ?_)
    refine lv_iload_n hx hb dX9_countFitting_32 rfl (lv_at hl 2 rfl) ?_
    refine lv_iconst (v := 2) hx hb dX9_countFitting_33 (by decide) ?_
    refine lv_icmp_le (tgt := 42) hx hb dX9_countFitting_34 (by decide) (fun c36 => ?_) (fun c36 => ?_)
    · skip
      refine lv_iconst (v := 1) hx hb dX9_countFitting_42 (by decide) ?_
      exact J43_s0_1 H locs ls v30_3 1 iv30_3 (iv_w (iv_c (by decide) : IV 1 1 1) (by decide)) hH hS (lv_sub hl [1, 3, 4, 0] rfl)
    · skip
      exfalso
      have z1 := iv_nle c36
      have z2 := ((iv_c (by decide) : IV 2 2 2)).1
      have z3 := ((iv_c (by decide) : IV 2 2 2)).2
      have z4 := (f30_y1).1
      have z5 := (f30_y1).2
      omega
  have J30_s0_6 : ∀ (H : Heap) (locs : List Loc) (ls : Array Slot) (v30_3 : Int32), IV v30_3 6 6 → IV y1 2 3 → th_H D cT T (kd q) H → va_S (th_A T [45]) s.heap H locs → lv_has ls 10 [(0, .ref a0), (1, .int y1), (2, .int y2), (3, .int v30_3)] → W p l e (rmk 2 49) s m [.ref a0, .int y1, .int y2].toArray below meth c H locs 0 0 (MQ below (th_Q D cT T (kd q) (th_R T (some (.inl (-2147483648, 2147483647)))) [45]) [.ref a0, .int y1, .int y2].toArray s 0 0 (th_A T [45])) (F0 m 30 ls [.int 6]) := by
    intro H locs ls v30_3 iv30_3 f30_y1 hH hS hl
    refine lv_istore (lv' := [(4, .int 6), (0, .ref a0), (1, .int y1), (2, .int y2), (3, .int v30_3)]) hx hb dX9_countFitting_30 hl (by decide) rfl (fun ls hl => ?_)
    refine lv_iload_n hx hb dX9_countFitting_32 rfl (lv_at hl 2 rfl) ?_
    refine lv_iconst (v := 2) hx hb dX9_countFitting_33 (by decide) ?_
    refine lv_icmp_le (tgt := 42) hx hb dX9_countFitting_34 (by decide) (fun c37 => ?_) (fun c37 => ?_)
    · skip
      have ir38 : IV y1 2 2 := iv_vL f30_y1 (iv_c (by decide) : IV 2 2 2) (iv_le c37) (by decide)
      refine lv_iconst (v := 1) hx hb dX9_countFitting_42 (by decide) ?_
      exact J43_s0_1 H locs ls v30_3 6 (iv_w iv30_3 (by decide)) (iv_w (iv_c (by decide) : IV 6 6 6) (by decide)) hH hS (lv_sub hl [1, 3, 4, 0] rfl)
    · skip
      have ir39 : IV y1 3 3 := iv_uR (iv_c (by decide) : IV 2 2 2) f30_y1 (iv_nle c37) (by decide)
      refine lv_bipush (v := 6) hx hb dX9_countFitting_37 (by decide) ?_
      refine lv_goto (tgt := 43) hx hb dX9_countFitting_39 (by decide) ?_
      exact J43_s0_6 H locs ls v30_3 6 iv30_3 (iv_c (by decide) : IV 6 6 6) hH hS (lv_sub hl [1, 3, 4, 0] rfl)
  have J18_s0_1 : ∀ (H : Heap) (locs : List Loc) (ls : Array Slot), IV y1 0 0 → th_H D cT T (kd q) H → va_S (th_A T [45]) s.heap H locs → lv_has ls 10 [(0, .ref a0), (1, .int y1), (2, .int y2)] → W p l e (rmk 2 49) s m [.ref a0, .int y1, .int y2].toArray below meth c H locs 0 0 (MQ below (th_Q D cT T (kd q) (th_R T (some (.inl (-2147483648, 2147483647)))) [45]) [.ref a0, .int y1, .int y2].toArray s 0 0 (th_A T [45])) (F0 m 18 ls [.int 1]) := by
    intro H locs ls f18_y1 hH hS hl
    refine lv_istore_n (lv' := [(3, .int 1), (0, .ref a0), (1, .int y1), (2, .int y2)]) hx hb dX9_countFitting_18 rfl hl (by decide) rfl (fun ls hl => ?_)
    refine lv_iload_n hx hb dX9_countFitting_19 rfl (lv_at hl 2 rfl) ?_
    refine lv_iconst (v := 1) hx hb dX9_countFitting_20 (by decide) ?_
    refine lv_icmp_le (tgt := 29) hx hb dX9_countFitting_21 (by decide) (fun c40 => ?_) (fun c40 => ?_)
    · skip
      refine lv_iconst (v := 1) hx hb dX9_countFitting_29 (by decide) ?_
      exact J30_s0_1 H locs ls 1 (iv_w (iv_c (by decide) : IV 1 1 1) (by decide)) (iv_w f18_y1 (by decide)) hH hS (lv_sub hl [1, 2, 3, 0] rfl)
    · skip
      exfalso
      have z1 := iv_nle c40
      have z2 := ((iv_c (by decide) : IV 1 1 1)).1
      have z3 := ((iv_c (by decide) : IV 1 1 1)).2
      have z4 := (f18_y1).1
      have z5 := (f18_y1).2
      omega
  have J18_s0_6 : ∀ (H : Heap) (locs : List Loc) (ls : Array Slot), IV y1 1 3 → th_H D cT T (kd q) H → va_S (th_A T [45]) s.heap H locs → lv_has ls 10 [(0, .ref a0), (1, .int y1), (2, .int y2)] → W p l e (rmk 2 49) s m [.ref a0, .int y1, .int y2].toArray below meth c H locs 0 0 (MQ below (th_Q D cT T (kd q) (th_R T (some (.inl (-2147483648, 2147483647)))) [45]) [.ref a0, .int y1, .int y2].toArray s 0 0 (th_A T [45])) (F0 m 18 ls [.int 6]) := by
    intro H locs ls f18_y1 hH hS hl
    refine lv_istore_n (lv' := [(3, .int 6), (0, .ref a0), (1, .int y1), (2, .int y2)]) hx hb dX9_countFitting_18 rfl hl (by decide) rfl (fun ls hl => ?_)
    refine lv_iload_n hx hb dX9_countFitting_19 rfl (lv_at hl 2 rfl) ?_
    refine lv_iconst (v := 1) hx hb dX9_countFitting_20 (by decide) ?_
    refine lv_icmp_le (tgt := 29) hx hb dX9_countFitting_21 (by decide) (fun c41 => ?_) (fun c41 => ?_)
    · skip
      have ir42 : IV y1 1 1 := iv_vL f18_y1 (iv_c (by decide) : IV 1 1 1) (iv_le c41) (by decide)
      refine lv_iconst (v := 1) hx hb dX9_countFitting_29 (by decide) ?_
      exact J30_s0_1 H locs ls 6 (iv_w (iv_c (by decide) : IV 6 6 6) (by decide)) (iv_w ir42 (by decide)) hH hS (lv_sub hl [1, 2, 3, 0] rfl)
    · skip
      have ir43 : IV y1 2 3 := iv_uR (iv_c (by decide) : IV 1 1 1) f18_y1 (iv_nle c41) (by decide)
      refine lv_bipush (v := 6) hx hb dX9_countFitting_24 (by decide) ?_
      refine lv_goto (tgt := 30) hx hb dX9_countFitting_26 (by decide) ?_
      exact J30_s0_6 H locs ls 6 (iv_c (by decide) : IV 6 6 6) ir43 hH hS (lv_sub hl [1, 2, 3, 0] rfl)
  have J0 : ∀ (H : Heap) (locs : List Loc) (ls : Array Slot), th_H D cT T (kd q) H → va_S (th_A T [45]) s.heap H locs → lv_has ls 10 [(0, .ref a0), (1, .int y1), (2, .int y2)] → W p l e (rmk 2 49) s m [.ref a0, .int y1, .int y2].toArray below meth c H locs 0 0 (MQ below (th_Q D cT T (kd q) (th_R T (some (.inl (-2147483648, 2147483647)))) [45]) [.ref a0, .int y1, .int y2].toArray s 0 0 (th_A T [45])) (F0 m 0 ls []) := by
    intro H locs ls hH hS hl
    refine lv_aload_n hx hb dX9_countFitting_0 rfl (lv_at hl 0 rfl) ?_
    refine th_get S hK hH inG9 t0 kd_8 rfl 5 (by decide) gm_480 rfl rfl dX9_countFitting_1 (fun v44 hv44 fv44 => ?_)
    obtain ⟨rf45, rfl, trf45⟩ := th_V.ref hv44
    refine lv_iconst (v := 0) hx hb dX9_countFitting_4 (by decide) ?_
    refine th_callSv (n := 2) (As := [.ref rf45, .int 0]) S hK hH hS (th_A.sub (by decide)) (m_J7_fill_53178_v5 l D cT T q hq rf45 trf45 (0) (iv_top _)) gm_699 gm_1168 gm_698 gm_131 (by decide +kernel) ⟨rfl, rfl, Nat.le_of_ble_eq_true rfl, Nat.le_of_ble_eq_true rfl⟩ rfl hl.1 rfl (Nat.le_of_ble_eq_true rfl) dX9_countFitting_5 ⟨Nat.zero_le _, Nat.zero_le _⟩ (fun H locs hH hS hF1 => ?_)
    have f46 := fv44.kept (hF1 _ fv44.lt (th_off t0 (by decide)))
    refine lv_iload_n hx hb dX9_countFitting_8 rfl (lv_at hl 1 rfl) ?_
    refine lv_if_le (tgt := 17) hx hb dX9_countFitting_9 (by decide) (fun c47 => ?_) (fun c47 => ?_)
    · skip
      have ir48 : IV y1 0 0 := iv_vL j1 (iv_c (by decide) : IV 0 0 0) (iv_le c47) (by decide)
      refine lv_iconst (v := 1) hx hb dX9_countFitting_17 (by decide) ?_
      exact J18_s0_1 H locs ls ir48 hH hS (lv_sub hl [0, 1, 2] rfl)
    · skip
      have ir49 : IV y1 1 3 := iv_uR (iv_c (by decide) : IV 0 0 0) j1 (iv_nle c47) (by decide)
      refine lv_bipush (v := 6) hx hb dX9_countFitting_12 (by decide) ?_
      refine lv_goto (tgt := 18) hx hb dX9_countFitting_14 (by decide) ?_
      exact J18_s0_6 H locs ls ir49 hH hS (lv_sub hl [0, 1, 2] rfl)
  exact J0 s.heap [] ls hH va_S.rf hl

set_option maxRecDepth 100000 in
theorem m_X9_sureLiking (l : Launch) (D : va_G) (cT : Nat → ClassId) (T : Nat → Option Nat) (q : Nat → Int) (hq : qok q) (a0 : Nat) (t0 : T a0 = some 8) (y1 : Int32) (j1 : IV y1 0 3) (y2 : Int32) (j2 : IV y2 0 2) (y3 : Int32) (j3 : IV y3 (-2147483648) 2147483647) : th_Met l D cT T (kd q) yX9_sureLiking cX9_sureLiking 6 (some .int) (rmk 3 78) [.ref a0, .int y1, .int y2, .int y3] (th_R T (some (.inl (-2, 5)))) [45] := by
  refine th_start (by decide) (Nat.le_of_ble_eq_true rfl) ?_
  intro p e s m below meth c ls S hK hH hr hlocks hnm hl
  have hx := S.1
  have hb := S.2.1
  have hl : lv_has ls 6 [(0, .ref a0), (1, .int y1), (2, .int y2), (3, .int y3)] := hl
  have J18 : ∀ (n : Nat) (H : Heap) (locs : List Loc) (ls : Array Slot) (v18_4 : Int32) (v18_5 : Int32), IV v18_4 (-2147483648) 2147483647 → IV v18_5 0 6 → ¬ v18_4 = 0 → th_H D cT T (kd q) H → va_S (th_A T [45]) s.heap H locs → lv_has ls 6 [(0, .ref a0), (2, .int y2), (4, .int v18_4), (5, .int v18_5)] → (6 + 1 - v18_5.toInt).toNat < n → W p l e (rmk 3 78) s m [.ref a0, .int y1, .int y2, .int y3].toArray below meth c H locs 0 0 (MQ below (th_Q D cT T (kd q) (th_R T (some (.inl (-2, 5)))) [45]) [.ref a0, .int y1, .int y2, .int y3].toArray s 0 0 (th_A T [45])) (F0 m 18 ls []) := by
    intro n
    induction n with
    | zero => intro H locs ls v18_4 v18_5 iv18_4 iv18_5 d18_4_0 hH hS hl hn; exact absurd hn (Nat.not_lt_zero _)
    | succ n ih18 =>
      intro H locs ls v18_4 v18_5 iv18_4 iv18_5 d18_4_0 hH hS hl hn18
      refine lv_iload hx hb dX9_sureLiking_18 (lv_at hl 3 rfl) ?_
      refine lv_bipush (v := 6) hx hb dX9_sureLiking_20 (by decide) ?_
      refine lv_icmp_ge (tgt := 51) hx hb dX9_sureLiking_22 (by decide) (fun c1 => ?_) (fun c1 => ?_)
      · skip
        have ir2 : IV v18_5 6 6 := iv_vR (iv_c (by decide) : IV 6 6 6) iv18_5 (iv_le c1) (by decide)
        refine lv_bipush (v := (-2)) hx hb dX9_sureLiking_51 (by decide) ?_
        exact th_iret S hK hH hS hr hlocks (th_R.i (iv_w (iv_c (by decide) : IV (-2) (-2) (-2)) (by decide))) dX9_sureLiking_53
      · skip
        have ir3 : IV v18_5 0 5 := iv_uL iv18_5 (iv_c (by decide) : IV 6 6 6) (iv_nle c1) (by decide)
        refine lv_aload_n hx hb dX9_sureLiking_25 rfl (lv_at hl 0 rfl) ?_
        refine th_get S hK hH inG9 t0 kd_8 rfl 5 (by decide) gm_480 rfl rfl dX9_sureLiking_26 (fun v4 hv4 fv4 => ?_)
        obtain ⟨rf5, rfl, trf5⟩ := th_V.ref hv4
        refine lv_iload_n hx hb dX9_sureLiking_29 rfl (lv_at hl 1 rfl) ?_
        refine lv_bipush (v := 6) hx hb dX9_sureLiking_30 (by decide) ?_
        refine lv_imul hx hb dX9_sureLiking_32 ?_
        refine lv_topi (fun x6 ex6 => ?_)
        have ix6 : IV x6 0 12 := by rw [ex6]; exact iv_mul j2 (iv_c (by decide) : IV 6 6 6) (by decide) (by decide)
        refine lv_iload hx hb dX9_sureLiking_33 (lv_at hl 3 rfl) ?_
        refine lv_iadd hx hb dX9_sureLiking_35 ?_
        refine lv_topi (fun x7 ex7 => ?_)
        have ix7 : IV x7 0 17 := by rw [ex7]; exact iv_add ix6 ir3 (by decide)
        refine th_iald S hK hH trf5 kd_45 (th_in (hi := 17) ix7 (by decide)) dX9_sureLiking_36 (fun v8 hv8 => ?_)
        obtain ⟨x9, rfl, ix9⟩ := th_V.int hv8
        refine lv_iload hx hb dX9_sureLiking_37 (lv_at hl 2 rfl) ?_
        refine lv_icmp_ne (tgt := 45) hx hb dX9_sureLiking_39 (by decide) (fun c10 => ?_) (fun c10 => ?_)
        · skip
          refine th_iinc S dX9_sureLiking_45 hl (k := 3) rfl (by decide) ir3 (by decide) (fun x11 ls ex11 ix11 hl => ?_)
          have hl : lv_has ls 6 [(5, .int x11), (0, .ref a0), (2, .int y2), (4, .int v18_4)] := hl
          have ix11 : IV x11 1 6 := ix11
          refine lv_goto (tgt := 18) hx hb dX9_sureLiking_48 (by decide) ?_
          exact ih18 H locs ls v18_4 x11 iv18_4 (iv_w ix11 (by decide)) d18_4_0 hH hS (lv_sub hl [1, 2, 3, 0] rfl) (th_up iv18_5 ex11 (by decide) hn18)
        · skip
          refine lv_iload hx hb dX9_sureLiking_42 (lv_at hl 3 rfl) ?_
          exact th_iret S hK hH hS hr hlocks (th_R.i (iv_w ir3 (by decide))) dX9_sureLiking_44
  have J0 : ∀ (H : Heap) (locs : List Loc) (ls : Array Slot), th_H D cT T (kd q) H → va_S (th_A T [45]) s.heap H locs → lv_has ls 6 [(0, .ref a0), (1, .int y1), (2, .int y2), (3, .int y3)] → W p l e (rmk 3 78) s m [.ref a0, .int y1, .int y2, .int y3].toArray below meth c H locs 0 0 (MQ below (th_Q D cT T (kd q) (th_R T (some (.inl (-2, 5)))) [45]) [.ref a0, .int y1, .int y2, .int y3].toArray s 0 0 (th_A T [45])) (F0 m 0 ls []) := by
    intro H locs ls hH hS hl
    refine lv_aload_n hx hb dX9_sureLiking_0 rfl (lv_at hl 0 rfl) ?_
    refine lv_iload_n hx hb dX9_sureLiking_1 rfl (lv_at hl 1 rfl) ?_
    refine lv_iload_n hx hb dX9_sureLiking_2 rfl (lv_at hl 3 rfl) ?_
    refine th_callVi (n := 2) (As := [.int y1, .int y3]) S hK hH hS (th_A.sub (by decide)) (m_X9_countFitting l D cT T q hq a0 t0 (y1) j1 (y3) j3) gm_1167 gm_1185 gm_1165 gm_1166 gm_123 (by decide +kernel) ⟨rfl, rfl, Nat.le_of_ble_eq_true rfl, Nat.le_of_ble_eq_true rfl⟩ t0 kd_8 rfl rfl hl.1 rfl (Nat.le_of_ble_eq_true rfl) dX9_sureLiking_3 ⟨Nat.zero_le _, Nat.zero_le _⟩ (fun x12 H locs ix12 hH hS hF1 => ?_)
    refine lv_istore (lv' := [(4, .int x12), (0, .ref a0), (1, .int y1), (2, .int y2), (3, .int y3)]) hx hb dX9_sureLiking_6 hl (by decide) rfl (fun ls hl => ?_)
    refine lv_iload hx hb dX9_sureLiking_8 (lv_at hl 0 rfl) ?_
    refine lv_if_ne (tgt := 15) hx hb dX9_sureLiking_10 (by decide) (fun c13 => ?_) (fun c13 => ?_)
    · skip
      refine lv_iconst (v := 0) hx hb dX9_sureLiking_15 (by decide) ?_
      refine lv_istore (lv' := [(5, .int 0), (4, .int x12), (0, .ref a0), (1, .int y1), (2, .int y2), (3, .int y3)]) hx hb dX9_sureLiking_16 hl (by decide) rfl (fun ls hl => ?_)
      exact J18 ((6 + 1 - Int32.toInt 0).toNat + 1) H locs ls x12 0 ix12 (iv_w (iv_c (by decide) : IV 0 0 0) (by decide)) c13 hH hS (lv_sub hl [2, 4, 1, 0] rfl) (Nat.lt_succ_self _)
    · skip
      have ir14 : IV x12 0 0 := iv_eL c13 (iv_c (by decide) : IV 0 0 0)
      refine lv_iconst (v := (-1)) hx hb dX9_sureLiking_13 (by decide) ?_
      exact th_iret S hK hH hS hr hlocks (th_R.i (iv_w (iv_c (by decide) : IV (-1) (-1) (-1)) (by decide))) dX9_sureLiking_14
  exact J0 s.heap [] ls hH va_S.rf hl

set_option maxRecDepth 100000 in
theorem m_X9_fullBy (l : Launch) (D : va_G) (cT : Nat → ClassId) (T : Nat → Option Nat) (q : Nat → Int) (hq : qok q) (a0 : Nat) (t0 : T a0 = some 8) (y1 : Int32) (j1 : IV y1 0 2) (y2 : Int32) (j2 : IV y2 1 9) (y3 : Int32) (j3 : IV y3 (-2147483648) 2147483647) : th_Met l D cT T (kd q) yX9_fullBy cX9_fullBy 6 (some .int) (rmk 0 0) [.ref a0, .int y1, .int y2, .int y3] (th_R T (some (.inl (-2147483648, 2147483647)))) [] := by
  refine th_start (by decide) (Nat.le_of_ble_eq_true rfl) ?_
  intro p e s m below meth c ls S hK hH hr hlocks hnm hl
  have hx := S.1
  have hb := S.2.1
  have hl : lv_has ls 6 [(0, .ref a0), (1, .int y1), (2, .int y2), (3, .int y3)] := hl
  have J6 : ∀ (n : Nat) (H : Heap) (locs : List Loc) (ls : Array Slot) (v6_4 : Int32) (v6_5 : Int32), IV v6_4 (-2147483648) 2147483647 → IV v6_5 0 6 → th_H D cT T (kd q) H → va_S (th_A T []) s.heap H locs → lv_has ls 6 [(0, .ref a0), (1, .int y1), (2, .int y2), (3, .int y3), (4, .int v6_4), (5, .int v6_5)] → (6 + 1 - v6_5.toInt).toNat < n → W p l e (rmk 0 0) s m [.ref a0, .int y1, .int y2, .int y3].toArray below meth c H locs 0 0 (MQ below (th_Q D cT T (kd q) (th_R T (some (.inl (-2147483648, 2147483647)))) []) [.ref a0, .int y1, .int y2, .int y3].toArray s 0 0 (th_A T [])) (F0 m 6 ls []) := by
    intro n
    induction n with
    | zero => intro H locs ls v6_4 v6_5 iv6_4 iv6_5 hH hS hl hn; exact absurd hn (Nat.not_lt_zero _)
    | succ n ih6 =>
      intro H locs ls v6_4 v6_5 iv6_4 iv6_5 hH hS hl hn6
      have J38 : ∀ (H : Heap) (locs : List Loc) (ls : Array Slot) (v38_4 : Int32), IV v38_4 (-2147483648) 2147483647 → IV v6_5 0 5 → th_H D cT T (kd q) H → va_S (th_A T []) s.heap H locs → lv_has ls 6 [(0, .ref a0), (1, .int y1), (2, .int y2), (3, .int y3), (4, .int v38_4), (5, .int v6_5)] → W p l e (rmk 0 0) s m [.ref a0, .int y1, .int y2, .int y3].toArray below meth c H locs 0 0 (MQ below (th_Q D cT T (kd q) (th_R T (some (.inl (-2147483648, 2147483647)))) []) [.ref a0, .int y1, .int y2, .int y3].toArray s 0 0 (th_A T [])) (F0 m 38 ls []) := by
        intro H locs ls v38_4 iv38_4 f38_v6_5 hH hS hl
        refine th_iinc S dX9_fullBy_38 hl (k := 5) rfl (by decide) f38_v6_5 (by decide) (fun x1 ls ex1 ix1 hl => ?_)
        have hl : lv_has ls 6 [(5, .int x1), (0, .ref a0), (1, .int y1), (2, .int y2), (3, .int y3), (4, .int v38_4)] := hl
        have ix1 : IV x1 1 6 := ix1
        refine lv_goto (tgt := 6) hx hb dX9_fullBy_41 (by decide) ?_
        exact ih6 H locs ls v38_4 x1 iv38_4 (iv_w ix1 (by decide)) hH hS (lv_sub hl [1, 2, 3, 4, 5, 0] rfl) (th_up iv6_5 ex1 (by decide) hn6)
      refine lv_iload hx hb dX9_fullBy_6 (lv_at hl 5 rfl) ?_
      refine lv_bipush (v := 6) hx hb dX9_fullBy_8 (by decide) ?_
      refine lv_icmp_ge (tgt := 44) hx hb dX9_fullBy_10 (by decide) (fun c2 => ?_) (fun c2 => ?_)
      · skip
        have ir3 : IV v6_5 6 6 := iv_vR (iv_c (by decide) : IV 6 6 6) iv6_5 (iv_le c2) (by decide)
        refine lv_iload hx hb dX9_fullBy_44 (lv_at hl 4 rfl) ?_
        exact th_iret S hK hH hS hr hlocks (th_R.i iv6_4) dX9_fullBy_46
      · skip
        have ir4 : IV v6_5 0 5 := iv_uL iv6_5 (iv_c (by decide) : IV 6 6 6) (iv_nle c2) (by decide)
        refine lv_iload hx hb dX9_fullBy_13 (lv_at hl 5 rfl) ?_
        refine lv_iload_n hx hb dX9_fullBy_15 rfl (lv_at hl 2 rfl) ?_
        refine lv_imul hx hb dX9_fullBy_16 ?_
        refine lv_topi (fun x5 ex5 => ?_)
        have ix5 : IV x5 0 45 := by rw [ex5]; exact iv_mul ir4 j2 (by decide) (by decide)
        refine lv_iload_n hx hb dX9_fullBy_17 rfl (lv_at hl 3 rfl) ?_
        refine lv_icmp_lt (tgt := 38) hx hb dX9_fullBy_18 (by decide) (fun c6 => ?_) (fun c6 => ?_)
        · skip
          have ir7 : IV y3 1 2147483647 := iv_uR ix5 j3 (iv_lt c6) (by decide)
          exact J38 H locs ls v6_4 iv6_4 ir4 hH hS (lv_sub hl [0, 1, 2, 3, 4, 5] rfl)
        · skip
          have ir8 : IV y3 (-2147483648) 45 := iv_vL j3 ix5 (iv_nlt c6) (by decide)
          refine lv_iload hx hb dX9_fullBy_21 (lv_at hl 4 rfl) ?_
          refine lv_aload_n hx hb dX9_fullBy_23 rfl (lv_at hl 0 rfl) ?_
          refine th_get S hK hH inG9 t0 kd_8 rfl 5 (by decide) gm_480 rfl rfl dX9_fullBy_24 (fun v9 hv9 fv9 => ?_)
          obtain ⟨rf10, rfl, trf10⟩ := th_V.ref hv9
          refine lv_iload_n hx hb dX9_fullBy_27 rfl (lv_at hl 1 rfl) ?_
          refine lv_bipush (v := 6) hx hb dX9_fullBy_28 (by decide) ?_
          refine lv_imul hx hb dX9_fullBy_30 ?_
          refine lv_topi (fun x11 ex11 => ?_)
          have ix11 : IV x11 0 12 := by rw [ex11]; exact iv_mul j1 (iv_c (by decide) : IV 6 6 6) (by decide) (by decide)
          refine lv_iload hx hb dX9_fullBy_31 (lv_at hl 5 rfl) ?_
          refine lv_iadd hx hb dX9_fullBy_33 ?_
          refine lv_topi (fun x12 ex12 => ?_)
          have ix12 : IV x12 0 17 := by rw [ex12]; exact iv_add ix11 ir4 (by decide)
          refine th_iald S hK hH trf10 kd_45 (th_in (hi := 17) ix12 (by decide)) dX9_fullBy_34 (fun v13 hv13 => ?_)
          obtain ⟨x14, rfl, ix14⟩ := th_V.int hv13
          refine lv_iadd hx hb dX9_fullBy_35 ?_
          refine lv_topi (fun x15 ex15 => ?_)
          have ix15 := iv_top x15
          refine lv_istore (lv' := [(4, .int x15), (0, .ref a0), (1, .int y1), (2, .int y2), (3, .int y3), (5, .int v6_5)]) hx hb dX9_fullBy_36 hl (by decide) rfl (fun ls hl => ?_)
          exact J38 H locs ls x15 ix15 ir4 hH hS (lv_sub hl [1, 2, 3, 4, 0, 5] rfl)
  have J0 : ∀ (H : Heap) (locs : List Loc) (ls : Array Slot), th_H D cT T (kd q) H → va_S (th_A T []) s.heap H locs → lv_has ls 6 [(0, .ref a0), (1, .int y1), (2, .int y2), (3, .int y3)] → W p l e (rmk 0 0) s m [.ref a0, .int y1, .int y2, .int y3].toArray below meth c H locs 0 0 (MQ below (th_Q D cT T (kd q) (th_R T (some (.inl (-2147483648, 2147483647)))) []) [.ref a0, .int y1, .int y2, .int y3].toArray s 0 0 (th_A T [])) (F0 m 0 ls []) := by
    intro H locs ls hH hS hl
    refine lv_iconst (v := 0) hx hb dX9_fullBy_0 (by decide) ?_
    refine lv_istore (lv' := [(4, .int 0), (0, .ref a0), (1, .int y1), (2, .int y2), (3, .int y3)]) hx hb dX9_fullBy_1 hl (by decide) rfl (fun ls hl => ?_)
    refine lv_iconst (v := 0) hx hb dX9_fullBy_3 (by decide) ?_
    refine lv_istore (lv' := [(5, .int 0), (4, .int 0), (0, .ref a0), (1, .int y1), (2, .int y2), (3, .int y3)]) hx hb dX9_fullBy_4 hl (by decide) rfl (fun ls hl => ?_)
    exact J6 ((6 + 1 - Int32.toInt 0).toNat + 1) H locs ls 0 0 (iv_top _) (iv_w (iv_c (by decide) : IV 0 0 0) (by decide)) hH hS (lv_sub hl [2, 3, 4, 5, 1, 0] rfl) (Nat.lt_succ_self _)
  exact J0 s.heap [] ls hH va_S.rf hl

set_option maxRecDepth 100000 in
theorem m_X9_nextTrial (l : Launch) (D : va_G) (cT : Nat → ClassId) (T : Nat → Option Nat) (q : Nat → Int) (hq : qok q) (a0 : Nat) (t0 : T a0 = some 8) (y1 : Int32) (j1 : IV y1 0 3) (y2 : Int32) (j2 : IV y2 (-2147483648) 2147483647) (y3 : Int32) (j3 : IV y3 (-2147483648) 2147483647) (y4 : Int32) (j4 : IV y4 (-2147483648) 2147483647) : th_Met l D cT T (kd q) yX9_nextTrial cX9_nextTrial 12 (some .int) (rmk 3 78) [.ref a0, .int y1, .int y2, .int y3, .int y4] (th_R T (some (.inl (-2147483648, 2147483647)))) [45] := by
  refine th_start (by decide) (Nat.le_of_ble_eq_true rfl) ?_
  intro p e s m below meth c ls S hK hH hr hlocks hnm hl
  have hx := S.1
  have hb := S.2.1
  have hl : lv_has ls 12 [(0, .ref a0), (1, .int y1), (2, .int y2), (3, .int y3), (4, .int y4)] := hl
  have J111 : ∀ (H : Heap) (locs : List Loc) (ls : Array Slot) (w111_0 : Int32), IV w111_0 (-2147483648) 2147483647 → th_H D cT T (kd q) H → va_S (th_A T [45]) s.heap H locs → lv_has ls 12 [] → W p l e (rmk 3 78) s m [.ref a0, .int y1, .int y2, .int y3, .int y4].toArray below meth c H locs 0 0 (MQ below (th_Q D cT T (kd q) (th_R T (some (.inl (-2147483648, 2147483647)))) [45]) [.ref a0, .int y1, .int y2, .int y3, .int y4].toArray s 0 0 (th_A T [45])) (F0 m 111 ls [.int w111_0]) := by
    intro H locs ls w111_0 iw111_0 hH hS hl
    exact th_iret S hK hH hS hr hlocks (th_R.i iw111_0) dX9_nextTrial_111
  have J28 : ∀ (n : Nat) (H : Heap) (locs : List Loc) (ls : Array Slot) (v28_5 : Int32) (v28_6 : Int32) (v28_7 : Int32) (v28_8 : Int32), IV v28_5 (-2147483648) 2147483647 → IV v28_6 (-1) 29 → IV v28_7 (-2147483648) 2147483647 → IV v28_8 0 3 → ¬ v28_5 = 0 → th_H D cT T (kd q) H → va_S (th_A T [45]) s.heap H locs → lv_has ls 12 [(0, .ref a0), (1, .int y1), (2, .int y2), (3, .int y3), (5, .int v28_5), (6, .int v28_6), (7, .int v28_7), (8, .int v28_8)] → (3 + 1 - v28_8.toInt).toNat < n → W p l e (rmk 3 78) s m [.ref a0, .int y1, .int y2, .int y3, .int y4].toArray below meth c H locs 0 0 (MQ below (th_Q D cT T (kd q) (th_R T (some (.inl (-2147483648, 2147483647)))) [45]) [.ref a0, .int y1, .int y2, .int y3, .int y4].toArray s 0 0 (th_A T [45])) (F0 m 28 ls []) := by
    intro n
    induction n with
    | zero => intro H locs ls v28_5 v28_6 v28_7 v28_8 iv28_5 iv28_6 iv28_7 iv28_8 d28_5_0 hH hS hl hn; exact absurd hn (Nat.not_lt_zero _)
    | succ n ih28 =>
      intro H locs ls v28_5 v28_6 v28_7 v28_8 iv28_5 iv28_6 iv28_7 iv28_8 d28_5_0 hH hS hl hn28
      have J37 : ∀ (n : Nat) (H : Heap) (locs : List Loc) (ls : Array Slot) (v37_6 : Int32) (v37_7 : Int32) (v37_9 : Int32), IV v37_6 (-1) 29 → IV v37_7 (-2147483648) 2147483647 → IV v37_9 1 10 → ¬ v28_5 = 0 → IV v28_8 0 2 → IV y1 1 3 → th_H D cT T (kd q) H → va_S (th_A T [45]) s.heap H locs → lv_has ls 12 [(0, .ref a0), (1, .int y1), (2, .int y2), (3, .int y3), (5, .int v28_5), (6, .int v37_6), (7, .int v37_7), (8, .int v28_8), (9, .int v37_9)] → (10 + 1 - v37_9.toInt).toNat < n → W p l e (rmk 3 78) s m [.ref a0, .int y1, .int y2, .int y3, .int y4].toArray below meth c H locs 0 0 (MQ below (th_Q D cT T (kd q) (th_R T (some (.inl (-2147483648, 2147483647)))) [45]) [.ref a0, .int y1, .int y2, .int y3, .int y4].toArray s 0 0 (th_A T [45])) (F0 m 37 ls []) := by
        intro n
        induction n with
        | zero => intro H locs ls v37_6 v37_7 v37_9 iv37_6 iv37_7 iv37_9 d37_5_0 f37_v28_8 f37_y1 hH hS hl hn; exact absurd hn (Nat.not_lt_zero _)
        | succ n ih37 =>
          intro H locs ls v37_6 v37_7 v37_9 iv37_6 iv37_7 iv37_9 d37_5_0 f37_v28_8 f37_y1 hH hS hl hn37
          have J88 : ∀ (H : Heap) (locs : List Loc) (ls : Array Slot) (v88_6 : Int32) (v88_7 : Int32), IV v88_6 (-1) 29 → IV v88_7 (-2147483648) 2147483647 → ¬ v28_5 = 0 → IV v28_8 0 2 → IV v37_9 1 9 → IV y1 1 3 → th_H D cT T (kd q) H → va_S (th_A T [45]) s.heap H locs → lv_has ls 12 [(0, .ref a0), (1, .int y1), (2, .int y2), (3, .int y3), (5, .int v28_5), (6, .int v88_6), (7, .int v88_7), (8, .int v28_8), (9, .int v37_9)] → W p l e (rmk 3 78) s m [.ref a0, .int y1, .int y2, .int y3, .int y4].toArray below meth c H locs 0 0 (MQ below (th_Q D cT T (kd q) (th_R T (some (.inl (-2147483648, 2147483647)))) [45]) [.ref a0, .int y1, .int y2, .int y3, .int y4].toArray s 0 0 (th_A T [45])) (F0 m 88 ls []) := by
            intro H locs ls v88_6 v88_7 iv88_6 iv88_7 d88_5_0 f88_v28_8 f88_v37_9 f88_y1 hH hS hl
            refine th_iinc S dX9_nextTrial_88 hl (k := 8) rfl (by decide) f88_v37_9 (by decide) (fun x1 ls ex1 ix1 hl => ?_)
            have hl : lv_has ls 12 [(9, .int x1), (0, .ref a0), (1, .int y1), (2, .int y2), (3, .int y3), (5, .int v28_5), (6, .int v88_6), (7, .int v88_7), (8, .int v28_8)] := hl
            have ix1 : IV x1 2 10 := ix1
            refine lv_goto (tgt := 37) hx hb dX9_nextTrial_91 (by decide) ?_
            exact ih37 H locs ls v88_6 v88_7 x1 iv88_6 iv88_7 (iv_w ix1 (by decide)) d88_5_0 f88_v28_8 f88_y1 hH hS (lv_sub hl [1, 2, 3, 4, 5, 6, 7, 8, 0] rfl) (th_up iv37_9 ex1 (by decide) hn37)
          refine lv_iload hx hb dX9_nextTrial_37 (lv_at hl 8 rfl) ?_
          refine lv_bipush (v := 9) hx hb dX9_nextTrial_39 (by decide) ?_
          refine lv_icmp_gt (tgt := 94) hx hb dX9_nextTrial_41 (by decide) (fun c2 => ?_) (fun c2 => ?_)
          · skip
            have ir3 : IV v37_9 10 10 := iv_uR (iv_c (by decide) : IV 9 9 9) iv37_9 (iv_lt c2) (by decide)
            refine th_iinc S dX9_nextTrial_94 hl (k := 7) rfl (by decide) f37_v28_8 (by decide) (fun x4 ls ex4 ix4 hl => ?_)
            have hl : lv_has ls 12 [(8, .int x4), (0, .ref a0), (1, .int y1), (2, .int y2), (3, .int y3), (5, .int v28_5), (6, .int v37_6), (7, .int v37_7), (9, .int v37_9)] := hl
            have ix4 : IV x4 1 3 := ix4
            refine lv_goto (tgt := 28) hx hb dX9_nextTrial_97 (by decide) ?_
            exact ih28 H locs ls v28_5 v37_6 v37_7 x4 iv28_5 iv37_6 iv37_7 (iv_w ix4 (by decide)) d37_5_0 hH hS (lv_sub hl [1, 2, 3, 4, 5, 6, 7, 0] rfl) (th_up iv28_8 ex4 (by decide) hn28)
          · skip
            have ir5 : IV v37_9 1 9 := iv_vL iv37_9 (iv_c (by decide) : IV 9 9 9) (iv_nlt c2) (by decide)
            refine lv_aload_n hx hb dX9_nextTrial_44 rfl (lv_at hl 0 rfl) ?_
            refine lv_iload hx hb dX9_nextTrial_45 (lv_at hl 7 rfl) ?_
            refine lv_iload hx hb dX9_nextTrial_47 (lv_at hl 8 rfl) ?_
            refine lv_iload_n hx hb dX9_nextTrial_49 rfl (lv_at hl 2 rfl) ?_
            refine th_callVi (n := 3) (As := [.int v28_8, .int v37_9, .int y2]) S hK hH hS (th_A.sub (by decide)) (m_X9_fullBy l D cT T q hq a0 t0 (v28_8) f37_v28_8 (v37_9) ir5 (y2) j2) gm_1197 gm_1194 gm_1196 gm_43 gm_123 (by decide +kernel) ⟨rfl, rfl, Nat.le_of_ble_eq_true rfl, Nat.le_of_ble_eq_true rfl⟩ t0 kd_8 rfl rfl hl.1 rfl (Nat.le_of_ble_eq_true rfl) dX9_nextTrial_50 ⟨Nat.zero_le _, Nat.zero_le _⟩ (fun x6 H locs ix6 hH hS hF1 => ?_)
            refine lv_istore (lv' := [(10, .int x6), (0, .ref a0), (1, .int y1), (2, .int y2), (3, .int y3), (5, .int v28_5), (6, .int v37_6), (7, .int v37_7), (8, .int v28_8), (9, .int v37_9)]) hx hb dX9_nextTrial_53 hl (by decide) rfl (fun ls hl => ?_)
            refine lv_iload hx hb dX9_nextTrial_55 (lv_at hl 0 rfl) ?_
            refine lv_iload hx hb dX9_nextTrial_57 (lv_at hl 5 rfl) ?_
            refine lv_iload hx hb dX9_nextTrial_59 (lv_at hl 0 rfl) ?_
            refine lv_isub hx hb dX9_nextTrial_61 ?_
            refine lv_topi (fun x7 ex7 => ?_)
            have ix7 := iv_top x7
            refine va_mmax hx hb (S.2.2.1.trans hl.1.symm) S.2.2.2.1 (S.2.2.2.2 _ gm_1198) (S.2.2.2.2 _ gm_625) (S.2.2.2.2 _ gm_129) (S.2.2.2.2 _ gm_626) (Nat.le_of_ble_eq_true rfl) (Nat.le_of_ble_eq_true rfl) (Nat.zero_le _) (Nat.zero_le _) dX9_nextTrial_62 ?_
            refine lv_topi (fun x8 ex8 => ?_)
            have ix8 : IV x8 (-2147483648) 2147483647 := by rw [ex8]; exact iv_max ix6 ix7 (by decide)
            refine lv_istore (lv' := [(11, .int x8), (10, .int x6), (0, .ref a0), (1, .int y1), (2, .int y2), (3, .int y3), (5, .int v28_5), (6, .int v37_6), (7, .int v37_7), (8, .int v28_8), (9, .int v37_9)]) hx hb dX9_nextTrial_65 hl (by decide) rfl (fun ls hl => ?_)
            refine lv_iload hx hb dX9_nextTrial_67 (lv_at hl 0 rfl) ?_
            refine lv_iload hx hb dX9_nextTrial_69 (lv_at hl 8 rfl) ?_
            refine lv_icmp_ge (tgt := 88) hx hb dX9_nextTrial_71 (by decide) (fun c9 => ?_) (fun c9 => ?_)
            · skip
              exact J88 H locs ls v37_6 v37_7 iv37_6 iv37_7 d37_5_0 f37_v28_8 ir5 f37_y1 hH hS (lv_sub hl [2, 3, 4, 5, 6, 7, 8, 9, 10] rfl)
            · skip
              have ir10 : IV x8 (-2147483648) 2147483646 := iv_uL ix8 iv37_7 (iv_nle c9) (by decide)
              have ir11 : IV v37_7 (-2147483647) 2147483647 := iv_uR ix8 iv37_7 (iv_nle c9) (by decide)
              refine lv_iload hx hb dX9_nextTrial_74 (lv_at hl 0 rfl) ?_
              refine lv_istore (lv' := [(7, .int x8), (11, .int x8), (10, .int x6), (0, .ref a0), (1, .int y1), (2, .int y2), (3, .int y3), (5, .int v28_5), (6, .int v37_6), (8, .int v28_8), (9, .int v37_9)]) hx hb dX9_nextTrial_76 hl (by decide) rfl (fun ls hl => ?_)
              refine lv_bipush (v := 10) hx hb dX9_nextTrial_78 (by decide) ?_
              refine lv_iload hx hb dX9_nextTrial_80 (lv_at hl 9 rfl) ?_
              refine lv_imul hx hb dX9_nextTrial_82 ?_
              refine lv_topi (fun x12 ex12 => ?_)
              have ix12 : IV x12 0 20 := by rw [ex12]; exact iv_mul (iv_c (by decide) : IV 10 10 10) f37_v28_8 (by decide) (by decide)
              refine lv_iload hx hb dX9_nextTrial_83 (lv_at hl 10 rfl) ?_
              refine lv_iadd hx hb dX9_nextTrial_85 ?_
              refine lv_topi (fun x13 ex13 => ?_)
              have ix13 : IV x13 1 29 := by rw [ex13]; exact iv_add ix12 ir5 (by decide)
              refine lv_istore (lv' := [(6, .int x13), (7, .int x8), (11, .int x8), (10, .int x6), (0, .ref a0), (1, .int y1), (2, .int y2), (3, .int y3), (5, .int v28_5), (8, .int v28_8), (9, .int v37_9)]) hx hb dX9_nextTrial_86 hl (by decide) rfl (fun ls hl => ?_)
              exact J88 H locs ls x13 x8 (iv_w ix13 (by decide)) (iv_top _) d37_5_0 f37_v28_8 ir5 f37_y1 hH hS (lv_sub hl [4, 5, 6, 7, 8, 0, 1, 9, 10] rfl)
      refine lv_iload hx hb dX9_nextTrial_28 (lv_at hl 7 rfl) ?_
      refine lv_iload_n hx hb dX9_nextTrial_30 rfl (lv_at hl 1 rfl) ?_
      refine lv_icmp_ge (tgt := 100) hx hb dX9_nextTrial_31 (by decide) (fun c14 => ?_) (fun c14 => ?_)
      · skip
        refine lv_iload_n hx hb dX9_nextTrial_100 rfl (lv_at hl 3 rfl) ?_
        refine lv_if_ne (tgt := 109) hx hb dX9_nextTrial_101 (by decide) (fun c15 => ?_) (fun c15 => ?_)
        · skip
          refine lv_iload hx hb dX9_nextTrial_109 (lv_at hl 6 rfl) ?_
          exact J111 H locs ls v28_7 iv28_7 hH hS (lv_sub hl [] rfl)
        · skip
          have ir16 : IV y3 0 0 := iv_eL c15 (iv_c (by decide) : IV 0 0 0)
          refine lv_iload hx hb dX9_nextTrial_104 (lv_at hl 5 rfl) ?_
          refine lv_goto (tgt := 111) hx hb dX9_nextTrial_106 (by decide) ?_
          exact J111 H locs ls v28_6 (iv_top _) hH hS (lv_sub hl [] rfl)
      · skip
        have ir17 : IV v28_8 0 2 := iv_uL iv28_8 j1 (iv_nle c14) (by decide)
        have ir18 : IV y1 1 3 := iv_uR iv28_8 j1 (iv_nle c14) (by decide)
        refine lv_iconst (v := 1) hx hb dX9_nextTrial_34 (by decide) ?_
        refine lv_istore (lv' := [(9, .int 1), (0, .ref a0), (1, .int y1), (2, .int y2), (3, .int y3), (5, .int v28_5), (6, .int v28_6), (7, .int v28_7), (8, .int v28_8)]) hx hb dX9_nextTrial_35 hl (by decide) rfl (fun ls hl => ?_)
        exact J37 ((10 + 1 - Int32.toInt 1).toNat + 1) H locs ls v28_6 v28_7 1 iv28_6 iv28_7 (iv_w (iv_c (by decide) : IV 1 1 1) (by decide)) d28_5_0 ir17 ir18 hH hS (lv_sub hl [1, 2, 3, 4, 5, 6, 7, 8, 0] rfl) (Nat.lt_succ_self _)
  have J0 : ∀ (H : Heap) (locs : List Loc) (ls : Array Slot), th_H D cT T (kd q) H → va_S (th_A T [45]) s.heap H locs → lv_has ls 12 [(0, .ref a0), (1, .int y1), (2, .int y2), (3, .int y3), (4, .int y4)] → W p l e (rmk 3 78) s m [.ref a0, .int y1, .int y2, .int y3, .int y4].toArray below meth c H locs 0 0 (MQ below (th_Q D cT T (kd q) (th_R T (some (.inl (-2147483648, 2147483647)))) [45]) [.ref a0, .int y1, .int y2, .int y3, .int y4].toArray s 0 0 (th_A T [45])) (F0 m 0 ls []) := by
    intro H locs ls hH hS hl
    refine lv_aload_n hx hb dX9_nextTrial_0 rfl (lv_at hl 0 rfl) ?_
    refine lv_iload_n hx hb dX9_nextTrial_1 rfl (lv_at hl 1 rfl) ?_
    refine lv_iload hx hb dX9_nextTrial_2 (lv_at hl 4 rfl) ?_
    refine th_callVi (n := 2) (As := [.int y1, .int y4]) S hK hH hS (th_A.sub (by decide)) (m_X9_countFitting l D cT T q hq a0 t0 (y1) j1 (y4) j4) gm_1167 gm_1185 gm_1165 gm_1166 gm_123 (by decide +kernel) ⟨rfl, rfl, Nat.le_of_ble_eq_true rfl, Nat.le_of_ble_eq_true rfl⟩ t0 kd_8 rfl rfl hl.1 rfl (Nat.le_of_ble_eq_true rfl) dX9_nextTrial_4 ⟨Nat.zero_le _, Nat.zero_le _⟩ (fun x19 H locs ix19 hH hS hF1 => ?_)
    refine lv_istore (lv' := [(5, .int x19), (0, .ref a0), (1, .int y1), (2, .int y2), (3, .int y3), (4, .int y4)]) hx hb dX9_nextTrial_7 hl (by decide) rfl (fun ls hl => ?_)
    refine lv_iload hx hb dX9_nextTrial_9 (lv_at hl 0 rfl) ?_
    refine lv_if_ne (tgt := 16) hx hb dX9_nextTrial_11 (by decide) (fun c20 => ?_) (fun c20 => ?_)
    · skip
      refine lv_iconst (v := (-1)) hx hb dX9_nextTrial_16 (by decide) ?_
      refine lv_istore (lv' := [(6, .int (-1)), (5, .int x19), (0, .ref a0), (1, .int y1), (2, .int y2), (3, .int y3), (4, .int y4)]) hx hb dX9_nextTrial_17 hl (by decide) rfl (fun ls hl => ?_)
      refine lv_iload hx hb dX9_nextTrial_19 (lv_at hl 1 rfl) ?_
      refine lv_iconst (v := 1) hx hb dX9_nextTrial_21 (by decide) ?_
      refine lv_iadd hx hb dX9_nextTrial_22 ?_
      refine lv_topi (fun x21 ex21 => ?_)
      have ix21 := iv_top x21
      refine lv_istore (lv' := [(7, .int x21), (6, .int (-1)), (5, .int x19), (0, .ref a0), (1, .int y1), (2, .int y2), (3, .int y3), (4, .int y4)]) hx hb dX9_nextTrial_23 hl (by decide) rfl (fun ls hl => ?_)
      refine lv_iconst (v := 0) hx hb dX9_nextTrial_25 (by decide) ?_
      refine lv_istore (lv' := [(8, .int 0), (7, .int x21), (6, .int (-1)), (5, .int x19), (0, .ref a0), (1, .int y1), (2, .int y2), (3, .int y3), (4, .int y4)]) hx hb dX9_nextTrial_26 hl (by decide) rfl (fun ls hl => ?_)
      exact J28 ((3 + 1 - Int32.toInt 0).toNat + 1) H locs ls x19 (-1) x21 0 ix19 (iv_w (iv_c (by decide) : IV (-1) (-1) (-1)) (by decide)) ix21 (iv_w (iv_c (by decide) : IV 0 0 0) (by decide)) c20 hH hS (lv_sub hl [4, 5, 6, 7, 3, 2, 1, 0] rfl) (Nat.lt_succ_self _)
    · skip
      have ir22 : IV x19 0 0 := iv_eL c20 (iv_c (by decide) : IV 0 0 0)
      refine lv_iconst (v := (-1)) hx hb dX9_nextTrial_14 (by decide) ?_
      exact th_iret S hK hH hS hr hlocks (th_R.i (iv_top _)) dX9_nextTrial_15
  exact J0 s.heap [] ls hH va_S.rf hl

set_option maxRecDepth 100000 in
theorem m_X10_feed (l : Launch) (D : va_G) (cT : Nat → ClassId) (T : Nat → Option Nat) (q : Nat → Int) (hq : qok q) (a0 : Nat) (t0 : T a0 = some 0) (y1 : Int32) (j1 : IV y1 (-2147483648) 2147483647) (y2 : Int32) (j2 : IV y2 (-2147483648) 2147483647) (y3 : Int32) (j3 : IV y3 (-2147483648) 2147483647) (y4 : Int32) (j4 : IV y4 (-2147483648) 2147483647) (y5 : Int32) (j5 : IV y5 (-2147483648) 2147483647) : th_Met l D cT T (kd q) yX10_feed cX10_feed 6 (some .int) (rmk 1 22) [.ref a0, .int y1, .int y2, .int y3, .int y4, .int y5] (th_R T (some (.inl (-1, 1600)))) [1, 11] := by
  refine th_start (by decide) (Nat.le_of_ble_eq_true rfl) ?_
  intro p e s m below meth c ls S hK hH hr hlocks hnm hl
  have hx := S.1
  have hb := S.2.1
  have hl : lv_has ls 6 [(0, .ref a0), (1, .int y1), (2, .int y2), (3, .int y3), (4, .int y4), (5, .int y5)] := hl
  have J0 : ∀ (H : Heap) (locs : List Loc) (ls : Array Slot), th_H D cT T (kd q) H → va_S (th_A T [1, 11]) s.heap H locs → lv_has ls 6 [(0, .ref a0), (1, .int y1), (2, .int y2), (3, .int y3), (4, .int y4), (5, .int y5)] → W p l e (rmk 1 22) s m [.ref a0, .int y1, .int y2, .int y3, .int y4, .int y5].toArray below meth c H locs 0 0 (MQ below (th_Q D cT T (kd q) (th_R T (some (.inl (-1, 1600)))) [1, 11]) [.ref a0, .int y1, .int y2, .int y3, .int y4, .int y5].toArray s 0 0 (th_A T [1, 11])) (F0 m 0 ls []) := by
    intro H locs ls hH hS hl
    refine lv_aload_n hx hb dX10_feed_0 rfl (lv_at hl 0 rfl) ?_
    refine th_get S hK hH inG10 t0 kd_0 rfl 0 (by decide) gm_505 rfl rfl dX10_feed_1 (fun v1 hv1 fv1 => ?_)
    obtain ⟨rf2, rfl, trf2⟩ := th_V.ref hv1
    refine th_get S hK hH inG8 trf2 kd_1 rfl 4 (by decide) gm_156 rfl rfl dX10_feed_4 (fun v3 hv3 fv3 => ?_)
    obtain ⟨x4, rfl, ix4⟩ := th_V.int hv3
    refine lv_bipush (v := 20) hx hb dX10_feed_7 (by decide) ?_
    refine lv_iadd hx hb dX10_feed_9 ?_
    refine lv_topi (fun x5 ex5 => ?_)
    have ix5 : IV x5 20 1620 := by rw [ex5]; exact iv_add ix4 (iv_c (by decide) : IV 20 20 20) (by decide)
    refine lv_sipush (v := 1600) hx hb dX10_feed_10 (by decide) ?_
    refine lv_icmp_le (tgt := 18) hx hb dX10_feed_13 (by decide) (fun c6 => ?_) (fun c6 => ?_)
    · skip
      have ir7 : IV x5 20 1600 := iv_vL ix5 (iv_c (by decide) : IV 1600 1600 1600) (iv_le c6) (by decide)
      refine lv_aload_n hx hb dX10_feed_18 rfl (lv_at hl 0 rfl) ?_
      refine th_getK S hK fv1 inG10 rfl (by decide) gm_505 rfl dX10_feed_19 ?_
      refine lv_iload_n hx hb dX10_feed_22 rfl (lv_at hl 1 rfl) ?_
      refine th_callVv (n := 1) (As := [.int y1]) S hK hH hS (th_A.sub (by decide)) (m_X8_append l D cT T q hq rf2 trf2 (y1) j1) gm_543 gm_540 gm_541 gm_542 gm_114 (by decide +kernel) ⟨rfl, rfl, Nat.le_of_ble_eq_true rfl, Nat.le_of_ble_eq_true rfl⟩ trf2 kd_1 rfl rfl hl.1 rfl (Nat.le_of_ble_eq_true rfl) dX10_feed_23 ⟨Nat.zero_le _, Nat.zero_le _⟩ (fun H locs hH hS hF1 => ?_)
      have f9 := fv1.kept (hF1 _ fv1.lt (th_off t0 (by decide)))
      refine lv_aload_n hx hb dX10_feed_26 rfl (lv_at hl 0 rfl) ?_
      refine th_getK S hK f9 inG10 rfl (by decide) gm_505 rfl dX10_feed_27 ?_
      refine lv_iload_n hx hb dX10_feed_30 rfl (lv_at hl 2 rfl) ?_
      refine th_callVv (n := 1) (As := [.int y2]) S hK hH hS (th_A.sub (by decide)) (m_X8_append l D cT T q hq rf2 trf2 (y2) j2) gm_543 gm_540 gm_541 gm_542 gm_114 (by decide +kernel) ⟨rfl, rfl, Nat.le_of_ble_eq_true rfl, Nat.le_of_ble_eq_true rfl⟩ trf2 kd_1 rfl rfl hl.1 rfl (Nat.le_of_ble_eq_true rfl) dX10_feed_31 ⟨Nat.zero_le _, Nat.zero_le _⟩ (fun H locs hH hS hF1 => ?_)
      have f11 := f9.kept (hF1 _ f9.lt (th_off t0 (by decide)))
      refine lv_aload_n hx hb dX10_feed_34 rfl (lv_at hl 0 rfl) ?_
      refine th_getK S hK f11 inG10 rfl (by decide) gm_505 rfl dX10_feed_35 ?_
      refine lv_iload_n hx hb dX10_feed_38 rfl (lv_at hl 3 rfl) ?_
      refine th_callVv (n := 1) (As := [.int y3]) S hK hH hS (th_A.sub (by decide)) (m_X8_append l D cT T q hq rf2 trf2 (y3) j3) gm_543 gm_540 gm_541 gm_542 gm_114 (by decide +kernel) ⟨rfl, rfl, Nat.le_of_ble_eq_true rfl, Nat.le_of_ble_eq_true rfl⟩ trf2 kd_1 rfl rfl hl.1 rfl (Nat.le_of_ble_eq_true rfl) dX10_feed_39 ⟨Nat.zero_le _, Nat.zero_le _⟩ (fun H locs hH hS hF1 => ?_)
      have f13 := f11.kept (hF1 _ f11.lt (th_off t0 (by decide)))
      refine lv_aload_n hx hb dX10_feed_42 rfl (lv_at hl 0 rfl) ?_
      refine th_getK S hK f13 inG10 rfl (by decide) gm_505 rfl dX10_feed_43 ?_
      refine lv_iload hx hb dX10_feed_46 (lv_at hl 4 rfl) ?_
      refine th_callVv (n := 1) (As := [.int y4]) S hK hH hS (th_A.sub (by decide)) (m_X8_append l D cT T q hq rf2 trf2 (y4) j4) gm_543 gm_540 gm_541 gm_542 gm_114 (by decide +kernel) ⟨rfl, rfl, Nat.le_of_ble_eq_true rfl, Nat.le_of_ble_eq_true rfl⟩ trf2 kd_1 rfl rfl hl.1 rfl (Nat.le_of_ble_eq_true rfl) dX10_feed_48 ⟨Nat.zero_le _, Nat.zero_le _⟩ (fun H locs hH hS hF1 => ?_)
      have f15 := f13.kept (hF1 _ f13.lt (th_off t0 (by decide)))
      refine lv_aload_n hx hb dX10_feed_51 rfl (lv_at hl 0 rfl) ?_
      refine th_getK S hK f15 inG10 rfl (by decide) gm_505 rfl dX10_feed_52 ?_
      refine lv_iload hx hb dX10_feed_55 (lv_at hl 5 rfl) ?_
      refine th_callVv (n := 1) (As := [.int y5]) S hK hH hS (th_A.sub (by decide)) (m_X8_append l D cT T q hq rf2 trf2 (y5) j5) gm_543 gm_540 gm_541 gm_542 gm_114 (by decide +kernel) ⟨rfl, rfl, Nat.le_of_ble_eq_true rfl, Nat.le_of_ble_eq_true rfl⟩ trf2 kd_1 rfl rfl hl.1 rfl (Nat.le_of_ble_eq_true rfl) dX10_feed_57 ⟨Nat.zero_le _, Nat.zero_le _⟩ (fun H locs hH hS hF1 => ?_)
      have f17 := f15.kept (hF1 _ f15.lt (th_off t0 (by decide)))
      refine lv_aload_n hx hb dX10_feed_60 rfl (lv_at hl 0 rfl) ?_
      refine th_getK S hK f17 inG10 rfl (by decide) gm_505 rfl dX10_feed_61 ?_
      refine th_get S hK hH inG8 trf2 kd_1 rfl 4 (by decide) gm_156 rfl rfl dX10_feed_64 (fun v19 hv19 fv19 => ?_)
      obtain ⟨x20, rfl, ix20⟩ := th_V.int hv19
      exact th_iret S hK hH hS hr hlocks (th_R.i (iv_w ix20 (by decide))) dX10_feed_67
    · skip
      have ir21 : IV x5 1601 1620 := iv_uR (iv_c (by decide) : IV 1600 1600 1600) ix5 (iv_nle c6) (by decide)
      refine lv_iconst (v := (-1)) hx hb dX10_feed_16 (by decide) ?_
      exact th_iret S hK hH hS hr hlocks (th_R.i (iv_w (iv_c (by decide) : IV (-1) (-1) (-1)) (by decide))) dX10_feed_17
  exact J0 s.heap [] ls hH va_S.rf hl

set_option maxRecDepth 100000 in
theorem m_X10_end (l : Launch) (D : va_G) (cT : Nat → ClassId) (T : Nat → Option Nat) (q : Nat → Int) (hq : qok q) (a0 : Nat) (t0 : T a0 = some 0) (y1 : Int32) (j1 : IV y1 (-2147483648) 2147483647) : th_Met l D cT T (kd q) yX10_end cX10_end 2 (some .int) (rmk 0 0) [.ref a0, .int y1] (th_R T (some (.inl (-1, 1600)))) [1] := by
  refine th_start (by decide) (Nat.le_of_ble_eq_true rfl) ?_
  intro p e s m below meth c ls S hK hH hr hlocks hnm hl
  have hx := S.1
  have hb := S.2.1
  have hl : lv_has ls 2 [(0, .ref a0), (1, .int y1)] := hl
  have J15 : ∀ (H : Heap) (locs : List Loc) (ls : Array Slot), th_H D cT T (kd q) H → va_S (th_A T [1]) s.heap H locs → lv_has ls 2 [] → W p l e (rmk 0 0) s m [.ref a0, .int y1].toArray below meth c H locs 0 0 (MQ below (th_Q D cT T (kd q) (th_R T (some (.inl (-1, 1600)))) [1]) [.ref a0, .int y1].toArray s 0 0 (th_A T [1])) (F0 m 15 ls []) := by
    intro H locs ls hH hS hl
    refine lv_iconst (v := (-1)) hx hb dX10_end_15 (by decide) ?_
    exact th_iret S hK hH hS hr hlocks (th_R.i (iv_w (iv_c (by decide) : IV (-1) (-1) (-1)) (by decide))) dX10_end_16
  have J0 : ∀ (H : Heap) (locs : List Loc) (ls : Array Slot), th_H D cT T (kd q) H → va_S (th_A T [1]) s.heap H locs → lv_has ls 2 [(0, .ref a0), (1, .int y1)] → W p l e (rmk 0 0) s m [.ref a0, .int y1].toArray below meth c H locs 0 0 (MQ below (th_Q D cT T (kd q) (th_R T (some (.inl (-1, 1600)))) [1]) [.ref a0, .int y1].toArray s 0 0 (th_A T [1])) (F0 m 0 ls []) := by
    intro H locs ls hH hS hl
    refine lv_iload_n hx hb dX10_end_0 rfl (lv_at hl 1 rfl) ?_
    refine lv_if_lt (tgt := 15) hx hb dX10_end_1 (by decide) (fun c1 => ?_) (fun c1 => ?_)
    · skip
      have ir2 : IV y1 (-2147483648) (-1) := iv_uL j1 (iv_c (by decide) : IV 0 0 0) (iv_lt c1) (by decide)
      exact J15 H locs ls  hH hS (lv_sub hl [] rfl)
    · skip
      have ir3 : IV y1 0 2147483647 := iv_vR (iv_c (by decide) : IV 0 0 0) j1 (iv_nlt c1) (by decide)
      refine lv_iload_n hx hb dX10_end_4 rfl (lv_at hl 1 rfl) ?_
      refine lv_aload_n hx hb dX10_end_5 rfl (lv_at hl 0 rfl) ?_
      refine th_get S hK hH inG10 t0 kd_0 rfl 0 (by decide) gm_505 rfl rfl dX10_end_6 (fun v4 hv4 fv4 => ?_)
      obtain ⟨rf5, rfl, trf5⟩ := th_V.ref hv4
      refine th_get S hK hH inG8 trf5 kd_1 rfl 4 (by decide) gm_156 rfl rfl dX10_end_9 (fun v6 hv6 fv6 => ?_)
      obtain ⟨x7, rfl, ix7⟩ := th_V.int hv6
      refine lv_icmp_le (tgt := 17) hx hb dX10_end_12 (by decide) (fun c8 => ?_) (fun c8 => ?_)
      · skip
        have ir9 : IV y1 0 1600 := iv_vL ir3 ix7 (iv_le c8) (by decide)
        refine lv_aload_n hx hb dX10_end_17 rfl (lv_at hl 0 rfl) ?_
        refine th_getK S hK fv4 inG10 rfl (by decide) gm_505 rfl dX10_end_18 ?_
        refine lv_iload_n hx hb dX10_end_21 rfl (lv_at hl 1 rfl) ?_
        refine th_put S hK hH hS ⟨1, by decide, trf5⟩ inG8 tyX8 tyX8_ok nmX8 trf5 kd_1 rfl 4 (by decide) gm_156 rfl rfl rfl rfl (th_iv ir9) (fun _ _ => trivial) (ty := .int) (by decide +kernel) rfl rfl dX10_end_22 (fun H locs hH hS hq1 hp1 => ?_)
        have f11 := fv4.kept (hq1 _ (th_ne t0 trf5 (by decide)))
        have f12 := hp1.1
        refine lv_iload_n hx hb dX10_end_25 rfl (lv_at hl 1 rfl) ?_
        exact th_iret S hK hH hS hr hlocks (th_R.i (iv_w ir9 (by decide))) dX10_end_26
      · skip
        have ir13 : IV y1 1 2147483647 := iv_uR ix7 ir3 (iv_nle c8) (by decide)
        exact J15 H locs ls  hH hS (lv_sub hl [] rfl)
  exact J0 s.heap [] ls hH va_S.rf hl

set_option maxRecDepth 100000 in
theorem m_X10_fault (l : Launch) (D : va_G) (cT : Nat → ClassId) (T : Nat → Option Nat) (q : Nat → Int) (hq : qok q) (a0 : Nat) (t0 : T a0 = some 0) (y1 : Int32) (j1 : IV y1 (-2147483648) 2147483647) : th_Met l D cT T (kd q) yX10_fault cX10_fault 2 (some .int) (rmk 0 0) [.ref a0, .int y1] (th_R T (some (.inl (-2147483648, 2147483647)))) [] := by
  refine th_start (by decide) (Nat.le_of_ble_eq_true rfl) ?_
  intro p e s m below meth c ls S hK hH hr hlocks hnm hl
  have hx := S.1
  have hb := S.2.1
  have hl : lv_has ls 2 [(0, .ref a0), (1, .int y1)] := hl
  have J28 : ∀ (H : Heap) (locs : List Loc) (ls : Array Slot) (w28_0 : Int32), IV w28_0 (-2147483648) 2147483647 → th_H D cT T (kd q) H → va_S (th_A T []) s.heap H locs → lv_has ls 2 [] → W p l e (rmk 0 0) s m [.ref a0, .int y1].toArray below meth c H locs 0 0 (MQ below (th_Q D cT T (kd q) (th_R T (some (.inl (-2147483648, 2147483647)))) []) [.ref a0, .int y1].toArray s 0 0 (th_A T [])) (F0 m 28 ls [.int w28_0]) := by
    intro H locs ls w28_0 iw28_0 hH hS hl
    exact th_iret S hK hH hS hr hlocks (th_R.i iw28_0) dX10_fault_28
  have J28_s0_m1 : ∀ (H : Heap) (locs : List Loc) (ls : Array Slot), th_H D cT T (kd q) H → va_S (th_A T []) s.heap H locs → lv_has ls 2 [] → W p l e (rmk 0 0) s m [.ref a0, .int y1].toArray below meth c H locs 0 0 (MQ below (th_Q D cT T (kd q) (th_R T (some (.inl (-2147483648, 2147483647)))) []) [.ref a0, .int y1].toArray s 0 0 (th_A T [])) (F0 m 28 ls [.int (-1)]) := by
    intro H locs ls hH hS hl
    exact th_iret S hK hH hS hr hlocks (th_R.i (iv_top _)) dX10_fault_28
  have J0 : ∀ (H : Heap) (locs : List Loc) (ls : Array Slot), th_H D cT T (kd q) H → va_S (th_A T []) s.heap H locs → lv_has ls 2 [(0, .ref a0), (1, .int y1)] → W p l e (rmk 0 0) s m [.ref a0, .int y1].toArray below meth c H locs 0 0 (MQ below (th_Q D cT T (kd q) (th_R T (some (.inl (-2147483648, 2147483647)))) []) [.ref a0, .int y1].toArray s 0 0 (th_A T [])) (F0 m 0 ls []) := by
    intro H locs ls hH hS hl
    refine lv_iload_n hx hb dX10_fault_0 rfl (lv_at hl 1 rfl) ?_
    refine lv_if_ne (tgt := 12) hx hb dX10_fault_1 (by decide) (fun c1 => ?_) (fun c1 => ?_)
    · skip
      refine lv_iload_n hx hb dX10_fault_12 rfl (lv_at hl 1 rfl) ?_
      refine lv_iconst (v := 1) hx hb dX10_fault_13 (by decide) ?_
      refine lv_icmp_ne (tgt := 27) hx hb dX10_fault_14 (by decide) (fun c2 => ?_) (fun c2 => ?_)
      · skip
        refine lv_iconst (v := (-1)) hx hb dX10_fault_27 (by decide) ?_
        exact J28_s0_m1 H locs ls  hH hS (lv_sub hl [] rfl)
      · skip
        have ir3 : IV y1 1 1 := iv_eL c2 (iv_c (by decide) : IV 1 1 1)
        refine lv_aload_n hx hb dX10_fault_17 rfl (lv_at hl 0 rfl) ?_
        refine th_get S hK hH inG10 t0 kd_0 rfl 1 (by decide) gm_506 rfl rfl dX10_fault_18 (fun v4 hv4 fv4 => ?_)
        obtain ⟨rf5, rfl, trf5⟩ := th_V.ref hv4
        refine th_get S hK hH inG6 trf5 kd_2 rfl 5 (by decide) gm_347 rfl rfl dX10_fault_21 (fun v6 hv6 fv6 => ?_)
        obtain ⟨x7, rfl, ix7⟩ := th_V.int hv6
        refine lv_goto (tgt := 28) hx hb dX10_fault_24 (by decide) ?_
        exact J28 H locs ls x7 ix7 hH hS (lv_sub hl [] rfl)
    · skip
      have ir8 : IV y1 0 0 := iv_eL c1 (iv_c (by decide) : IV 0 0 0)
      refine lv_aload_n hx hb dX10_fault_4 rfl (lv_at hl 0 rfl) ?_
      refine th_get S hK hH inG10 t0 kd_0 rfl 1 (by decide) gm_506 rfl rfl dX10_fault_5 (fun v9 hv9 fv9 => ?_)
      obtain ⟨rf10, rfl, trf10⟩ := th_V.ref hv9
      refine th_get S hK hH inG6 trf10 kd_2 rfl 4 (by decide) gm_345 rfl rfl dX10_fault_8 (fun v11 hv11 fv11 => ?_)
      obtain ⟨x12, rfl, ix12⟩ := th_V.int hv11
      exact th_iret S hK hH hS hr hlocks (th_R.i ix12) dX10_fault_11
  exact J0 s.heap [] ls hH va_S.rf hl

set_option maxRecDepth 100000 in
theorem m_X10_isFood (l : Launch) (D : va_G) (cT : Nat → ClassId) (T : Nat → Option Nat) (q : Nat → Int) (hq : qok q) (a0 : Nat) (t0 : T a0 = some 0) (y1 : Int32) (j1 : IV y1 (-2147483648) 2147483647) : th_Met l D cT T (kd q) yX10_isFood cX10_isFood 2 (some .boolean) (rmk 0 0) [.ref a0, .int y1] (th_RG y1 0 2) [] := by
  refine th_start (by decide) (Nat.le_of_ble_eq_true rfl) ?_
  intro p e s m below meth c ls S hK hH hr hlocks hnm hl
  have hx := S.1
  have hb := S.2.1
  have hl : lv_has ls 2 [(0, .ref a0), (1, .int y1)] := hl
  have J20_s0_0 : ∀ (H : Heap) (locs : List Loc) (ls : Array Slot), th_H D cT T (kd q) H → va_S (th_A T []) s.heap H locs → lv_has ls 2 [] → W p l e (rmk 0 0) s m [.ref a0, .int y1].toArray below meth c H locs 0 0 (MQ below (th_Q D cT T (kd q) (th_RG y1 0 2) []) [.ref a0, .int y1].toArray s 0 0 (th_A T [])) (F0 m 20 ls [.int 0]) := by
    intro H locs ls hH hS hl
    exact th_zret S hK hH hS hr hlocks (iv_w (iv_c (by decide) : IV 0 0 0) (by decide)) (th_RG.i (iv_w (iv_c (by decide) : IV 0 0 0) (by decide)) (fun z => absurd rfl z)) dX10_isFood_20
  have J20_s0_1 : ∀ (H : Heap) (locs : List Loc) (ls : Array Slot), IV y1 0 2 → th_H D cT T (kd q) H → va_S (th_A T []) s.heap H locs → lv_has ls 2 [] → W p l e (rmk 0 0) s m [.ref a0, .int y1].toArray below meth c H locs 0 0 (MQ below (th_Q D cT T (kd q) (th_RG y1 0 2) []) [.ref a0, .int y1].toArray s 0 0 (th_A T [])) (F0 m 20 ls [.int 1]) := by
    intro H locs ls f20_y1 hH hS hl
    exact th_zret S hK hH hS hr hlocks (iv_w (iv_c (by decide) : IV 1 1 1) (by decide)) (th_RG.i (iv_w (iv_c (by decide) : IV 1 1 1) (by decide)) (fun _ => f20_y1)) dX10_isFood_20
  have J19 : ∀ (H : Heap) (locs : List Loc) (ls : Array Slot), th_H D cT T (kd q) H → va_S (th_A T []) s.heap H locs → lv_has ls 2 [] → W p l e (rmk 0 0) s m [.ref a0, .int y1].toArray below meth c H locs 0 0 (MQ below (th_Q D cT T (kd q) (th_RG y1 0 2) []) [.ref a0, .int y1].toArray s 0 0 (th_A T [])) (F0 m 19 ls []) := by
    intro H locs ls hH hS hl
    refine lv_iconst (v := 0) hx hb dX10_isFood_19 (by decide) ?_
    exact J20_s0_0 H locs ls  hH hS (lv_sub hl [] rfl)
  have J0 : ∀ (H : Heap) (locs : List Loc) (ls : Array Slot), th_H D cT T (kd q) H → va_S (th_A T []) s.heap H locs → lv_has ls 2 [(0, .ref a0), (1, .int y1)] → W p l e (rmk 0 0) s m [.ref a0, .int y1].toArray below meth c H locs 0 0 (MQ below (th_Q D cT T (kd q) (th_RG y1 0 2) []) [.ref a0, .int y1].toArray s 0 0 (th_A T [])) (F0 m 0 ls []) := by
    intro H locs ls hH hS hl
    refine lv_iload_n hx hb dX10_isFood_0 rfl (lv_at hl 1 rfl) ?_
    refine lv_if_lt (tgt := 19) hx hb dX10_isFood_1 (by decide) (fun c1 => ?_) (fun c1 => ?_)
    · skip
      have ir2 : IV y1 (-2147483648) (-1) := iv_uL j1 (iv_c (by decide) : IV 0 0 0) (iv_lt c1) (by decide)
      exact J19 H locs ls  hH hS (lv_sub hl [] rfl)
    · skip
      have ir3 : IV y1 0 2147483647 := iv_vR (iv_c (by decide) : IV 0 0 0) j1 (iv_nlt c1) (by decide)
      refine lv_iload_n hx hb dX10_isFood_4 rfl (lv_at hl 1 rfl) ?_
      refine lv_aload_n hx hb dX10_isFood_5 rfl (lv_at hl 0 rfl) ?_
      refine th_get S hK hH inG10 t0 kd_0 rfl 2 (by decide) gm_507 rfl rfl dX10_isFood_6 (fun v4 hv4 fv4 => ?_)
      obtain ⟨rf5, rfl, trf5⟩ := th_V.ref hv4
      refine th_get S hK hH inG4 trf5 kd_3 rfl 11 (by decide) gm_277 rfl rfl dX10_isFood_9 (fun v6 hv6 fv6 => ?_)
      obtain ⟨x7, rfl, ix7⟩ := th_V.int hv6
      refine lv_icmp_ge (tgt := 19) hx hb dX10_isFood_12 (by decide) (fun c8 => ?_) (fun c8 => ?_)
      · skip
        exact J19 H locs ls  hH hS (lv_sub hl [] rfl)
      · skip
        have ir9 : IV y1 0 2 := iv_uL ir3 ix7 (iv_nle c8) (by decide)
        have ir10 : IV x7 1 3 := iv_uR ir3 ix7 (iv_nle c8) (by decide)
        refine lv_iconst (v := 1) hx hb dX10_isFood_15 (by decide) ?_
        refine lv_goto (tgt := 20) hx hb dX10_isFood_16 (by decide) ?_
        exact J20_s0_1 H locs ls ir9 hH hS (lv_sub hl [] rfl)
  exact J0 s.heap [] ls hH va_S.rf hl

set_option maxRecDepth 100000 in
theorem m_X10_store (l : Launch) (D : va_G) (cT : Nat → ClassId) (T : Nat → Option Nat) (q : Nat → Int) (hq : qok q) (a0 : Nat) (t0 : T a0 = some 0) (y1 : Int32) (j1 : IV y1 (-2147483648) 2147483647) : th_Met l D cT T (kd q) yX10_store cX10_store 2 (some .int) (rmk 1 21) [.ref a0, .int y1] (th_R T (some (.inl (-2147483648, 2147483647)))) [] := by
  refine th_start (by decide) (Nat.le_of_ble_eq_true rfl) ?_
  intro p e s m below meth c ls S hK hH hr hlocks hnm hl
  have hx := S.1
  have hb := S.2.1
  have hl : lv_has ls 2 [(0, .ref a0), (1, .int y1)] := hl
  have J26 : ∀ (H : Heap) (locs : List Loc) (ls : Array Slot) (w26_0 : Int32), IV w26_0 (-2147483648) 2147483647 → th_H D cT T (kd q) H → va_S (th_A T []) s.heap H locs → lv_has ls 2 [] → W p l e (rmk 1 21) s m [.ref a0, .int y1].toArray below meth c H locs 0 0 (MQ below (th_Q D cT T (kd q) (th_R T (some (.inl (-2147483648, 2147483647)))) []) [.ref a0, .int y1].toArray s 0 0 (th_A T [])) (F0 m 26 ls [.int w26_0]) := by
    intro H locs ls w26_0 iw26_0 hH hS hl
    exact th_iret S hK hH hS hr hlocks (th_R.i iw26_0) dX10_store_26
  have J26_s0_m1 : ∀ (H : Heap) (locs : List Loc) (ls : Array Slot), th_H D cT T (kd q) H → va_S (th_A T []) s.heap H locs → lv_has ls 2 [] → W p l e (rmk 1 21) s m [.ref a0, .int y1].toArray below meth c H locs 0 0 (MQ below (th_Q D cT T (kd q) (th_R T (some (.inl (-2147483648, 2147483647)))) []) [.ref a0, .int y1].toArray s 0 0 (th_A T [])) (F0 m 26 ls [.int (-1)]) := by
    intro H locs ls hH hS hl
    exact th_iret S hK hH hS hr hlocks (th_R.i (iv_top _)) dX10_store_26
  have J0 : ∀ (H : Heap) (locs : List Loc) (ls : Array Slot), th_H D cT T (kd q) H → va_S (th_A T []) s.heap H locs → lv_has ls 2 [(0, .ref a0), (1, .int y1)] → W p l e (rmk 1 21) s m [.ref a0, .int y1].toArray below meth c H locs 0 0 (MQ below (th_Q D cT T (kd q) (th_R T (some (.inl (-2147483648, 2147483647)))) []) [.ref a0, .int y1].toArray s 0 0 (th_A T [])) (F0 m 0 ls []) := by
    intro H locs ls hH hS hl
    refine lv_aload_n hx hb dX10_store_0 rfl (lv_at hl 0 rfl) ?_
    refine lv_iload_n hx hb dX10_store_1 rfl (lv_at hl 1 rfl) ?_
    refine th_callVg (n := 1) (As := [.int y1]) S hK hH hS (th_A.sub (by decide)) (m_X10_isFood l D cT T q hq a0 t0 (y1) j1) gm_824 gm_821 gm_823 gm_23 gm_113 (by decide +kernel) ⟨rfl, rfl, Nat.le_of_ble_eq_true rfl, Nat.le_of_ble_eq_true rfl⟩ t0 kd_0 rfl rfl hl.1 rfl (Nat.le_of_ble_eq_true rfl) dX10_store_2 ⟨Nat.zero_le _, Nat.zero_le _⟩ (fun x1 H locs ix1 ox1 hH hS hF1 => ?_)
    refine lv_if_eq (tgt := 25) hx hb dX10_store_5 (by decide) (fun c2 => ?_) (fun c2 => ?_)
    · skip
      have ir3 : IV x1 0 0 := iv_eL c2 (iv_c (by decide) : IV 0 0 0)
      refine lv_iconst (v := (-1)) hx hb dX10_store_25 (by decide) ?_
      exact J26_s0_m1 H locs ls  hH hS (lv_sub hl [] rfl)
    · skip
      have ir4 : IV x1 1 1 := iv_cutL ix1 (iv_c (by decide) : IV 0 0 0) c2 (by decide)
      have ir5 : IV y1 0 2 := ox1 c2
      refine lv_aload_n hx hb dX10_store_8 rfl (lv_at hl 0 rfl) ?_
      refine th_get S hK hH inG10 t0 kd_0 rfl 4 (by decide) gm_509 rfl rfl dX10_store_9 (fun v6 hv6 fv6 => ?_)
      obtain ⟨rf7, rfl, trf7⟩ := th_V.ref hv6
      refine th_callVr (n := 0) (As := []) S hK hH hS (th_A.sub (by decide)) (m_X3_now l D cT T q hq rf7 trf7) gm_828 gm_825 gm_826 gm_827 gm_120 (by decide +kernel) ⟨rfl, rfl, Nat.le_of_ble_eq_true rfl, Nat.le_of_ble_eq_true rfl⟩ trf7 kd_5 rfl rfl hl.1 rfl (Nat.le_of_ble_eq_true rfl) dX10_store_12 ⟨Nat.zero_le _, Nat.zero_le _⟩ (fun rf8 H locs trf8 hH hS hF1 => ?_)
      refine th_get S hK hH inG7 trf8 kd_10 rfl 0 (by decide) gm_231 rfl rfl dX10_store_15 (fun v9 hv9 fv9 => ?_)
      obtain ⟨rf10, rfl, trf10⟩ := th_V.ref hv9
      refine lv_iconst (v := 0) hx hb dX10_store_18 (by decide) ?_
      refine lv_iload_n hx hb dX10_store_19 rfl (lv_at hl 1 rfl) ?_
      refine lv_iadd hx hb dX10_store_20 ?_
      refine lv_topi (fun x11 ex11 => ?_)
      have ix11 : IV x11 0 2 := by rw [ex11]; exact iv_add (iv_c (by decide) : IV 0 0 0) ir5 (by decide)
      refine th_iald S hK hH trf10 kd_29 (th_in (hi := 2) ix11 (by decide)) dX10_store_21 (fun v12 hv12 => ?_)
      obtain ⟨x13, rfl, ix13⟩ := th_V.int hv12
      refine lv_goto (tgt := 26) hx hb dX10_store_22 (by decide) ?_
      exact J26 H locs ls x13 ix13 hH hS (lv_sub hl [] rfl)
  exact J0 s.heap [] ls hH va_S.rf hl

set_option maxRecDepth 100000 in
theorem m_X10_isMap (l : Launch) (D : va_G) (cT : Nat → ClassId) (T : Nat → Option Nat) (q : Nat → Int) (hq : qok q) (a0 : Nat) (t0 : T a0 = some 0) (y1 : Int32) (j1 : IV y1 (-2147483648) 2147483647) : th_Met l D cT T (kd q) yX10_isMap cX10_isMap 2 (some .boolean) (rmk 0 0) [.ref a0, .int y1] (th_RG y1 0 3) [] := by
  refine th_start (by decide) (Nat.le_of_ble_eq_true rfl) ?_
  intro p e s m below meth c ls S hK hH hr hlocks hnm hl
  have hx := S.1
  have hb := S.2.1
  have hl : lv_has ls 2 [(0, .ref a0), (1, .int y1)] := hl
  have J20_s0_0 : ∀ (H : Heap) (locs : List Loc) (ls : Array Slot), th_H D cT T (kd q) H → va_S (th_A T []) s.heap H locs → lv_has ls 2 [] → W p l e (rmk 0 0) s m [.ref a0, .int y1].toArray below meth c H locs 0 0 (MQ below (th_Q D cT T (kd q) (th_RG y1 0 3) []) [.ref a0, .int y1].toArray s 0 0 (th_A T [])) (F0 m 20 ls [.int 0]) := by
    intro H locs ls hH hS hl
    exact th_zret S hK hH hS hr hlocks (iv_w (iv_c (by decide) : IV 0 0 0) (by decide)) (th_RG.i (iv_w (iv_c (by decide) : IV 0 0 0) (by decide)) (fun z => absurd rfl z)) dX10_isMap_20
  have J20_s0_1 : ∀ (H : Heap) (locs : List Loc) (ls : Array Slot), IV y1 0 3 → th_H D cT T (kd q) H → va_S (th_A T []) s.heap H locs → lv_has ls 2 [] → W p l e (rmk 0 0) s m [.ref a0, .int y1].toArray below meth c H locs 0 0 (MQ below (th_Q D cT T (kd q) (th_RG y1 0 3) []) [.ref a0, .int y1].toArray s 0 0 (th_A T [])) (F0 m 20 ls [.int 1]) := by
    intro H locs ls f20_y1 hH hS hl
    exact th_zret S hK hH hS hr hlocks (iv_w (iv_c (by decide) : IV 1 1 1) (by decide)) (th_RG.i (iv_w (iv_c (by decide) : IV 1 1 1) (by decide)) (fun _ => f20_y1)) dX10_isMap_20
  have J19 : ∀ (H : Heap) (locs : List Loc) (ls : Array Slot), th_H D cT T (kd q) H → va_S (th_A T []) s.heap H locs → lv_has ls 2 [] → W p l e (rmk 0 0) s m [.ref a0, .int y1].toArray below meth c H locs 0 0 (MQ below (th_Q D cT T (kd q) (th_RG y1 0 3) []) [.ref a0, .int y1].toArray s 0 0 (th_A T [])) (F0 m 19 ls []) := by
    intro H locs ls hH hS hl
    refine lv_iconst (v := 0) hx hb dX10_isMap_19 (by decide) ?_
    exact J20_s0_0 H locs ls  hH hS (lv_sub hl [] rfl)
  have J0 : ∀ (H : Heap) (locs : List Loc) (ls : Array Slot), th_H D cT T (kd q) H → va_S (th_A T []) s.heap H locs → lv_has ls 2 [(0, .ref a0), (1, .int y1)] → W p l e (rmk 0 0) s m [.ref a0, .int y1].toArray below meth c H locs 0 0 (MQ below (th_Q D cT T (kd q) (th_RG y1 0 3) []) [.ref a0, .int y1].toArray s 0 0 (th_A T [])) (F0 m 0 ls []) := by
    intro H locs ls hH hS hl
    refine lv_iload_n hx hb dX10_isMap_0 rfl (lv_at hl 1 rfl) ?_
    refine lv_if_lt (tgt := 19) hx hb dX10_isMap_1 (by decide) (fun c1 => ?_) (fun c1 => ?_)
    · skip
      have ir2 : IV y1 (-2147483648) (-1) := iv_uL j1 (iv_c (by decide) : IV 0 0 0) (iv_lt c1) (by decide)
      exact J19 H locs ls  hH hS (lv_sub hl [] rfl)
    · skip
      have ir3 : IV y1 0 2147483647 := iv_vR (iv_c (by decide) : IV 0 0 0) j1 (iv_nlt c1) (by decide)
      refine lv_iload_n hx hb dX10_isMap_4 rfl (lv_at hl 1 rfl) ?_
      refine lv_aload_n hx hb dX10_isMap_5 rfl (lv_at hl 0 rfl) ?_
      refine th_get S hK hH inG10 t0 kd_0 rfl 2 (by decide) gm_507 rfl rfl dX10_isMap_6 (fun v4 hv4 fv4 => ?_)
      obtain ⟨rf5, rfl, trf5⟩ := th_V.ref hv4
      refine th_get S hK hH inG4 trf5 kd_3 rfl 12 (by decide) gm_282 rfl rfl dX10_isMap_9 (fun v6 hv6 fv6 => ?_)
      obtain ⟨x7, rfl, ix7⟩ := th_V.int hv6
      refine lv_icmp_ge (tgt := 19) hx hb dX10_isMap_12 (by decide) (fun c8 => ?_) (fun c8 => ?_)
      · skip
        exact J19 H locs ls  hH hS (lv_sub hl [] rfl)
      · skip
        have ir9 : IV y1 0 3 := iv_uL ir3 ix7 (iv_nle c8) (by decide)
        have ir10 : IV x7 1 4 := iv_uR ir3 ix7 (iv_nle c8) (by decide)
        refine lv_iconst (v := 1) hx hb dX10_isMap_15 (by decide) ?_
        refine lv_goto (tgt := 20) hx hb dX10_isMap_16 (by decide) ?_
        exact J20_s0_1 H locs ls ir9 hH hS (lv_sub hl [] rfl)
  exact J0 s.heap [] ls hH va_S.rf hl

set_option maxRecDepth 100000 in
theorem m_X10_map (l : Launch) (D : va_G) (cT : Nat → ClassId) (T : Nat → Option Nat) (q : Nat → Int) (hq : qok q) (a0 : Nat) (t0 : T a0 = some 0) (y1 : Int32) (j1 : IV y1 (-2147483648) 2147483647) (y2 : Int32) (j2 : IV y2 (-2147483648) 2147483647) : th_Met l D cT T (kd q) yX10_map cX10_map 4 (some .int) (rmk 2 51) [.ref a0, .int y1, .int y2] (th_R T (some (.inl (-2147483648, 2147483647)))) [18, 19] := by
  refine th_start (by decide) (Nat.le_of_ble_eq_true rfl) ?_
  intro p e s m below meth c ls S hK hH hr hlocks hnm hl
  have hx := S.1
  have hb := S.2.1
  have hl : lv_has ls 4 [(0, .ref a0), (1, .int y1), (2, .int y2)] := hl
  have J0 : ∀ (H : Heap) (locs : List Loc) (ls : Array Slot), th_H D cT T (kd q) H → va_S (th_A T [18, 19]) s.heap H locs → lv_has ls 4 [(0, .ref a0), (1, .int y1), (2, .int y2)] → W p l e (rmk 2 51) s m [.ref a0, .int y1, .int y2].toArray below meth c H locs 0 0 (MQ below (th_Q D cT T (kd q) (th_R T (some (.inl (-2147483648, 2147483647)))) [18, 19]) [.ref a0, .int y1, .int y2].toArray s 0 0 (th_A T [18, 19])) (F0 m 0 ls []) := by
    intro H locs ls hH hS hl
    refine lv_aload_n hx hb dX10_map_0 rfl (lv_at hl 0 rfl) ?_
    refine lv_iload_n hx hb dX10_map_1 rfl (lv_at hl 1 rfl) ?_
    refine th_callVg (n := 1) (As := [.int y1]) S hK hH hS (th_A.sub (by decide)) (m_X10_isMap l D cT T q hq a0 t0 (y1) j1) gm_836 gm_833 gm_835 gm_24 gm_113 (by decide +kernel) ⟨rfl, rfl, Nat.le_of_ble_eq_true rfl, Nat.le_of_ble_eq_true rfl⟩ t0 kd_0 rfl rfl hl.1 rfl (Nat.le_of_ble_eq_true rfl) dX10_map_2 ⟨Nat.zero_le _, Nat.zero_le _⟩ (fun x1 H locs ix1 ox1 hH hS hF1 => ?_)
    refine lv_if_ne (tgt := 10) hx hb dX10_map_5 (by decide) (fun c2 => ?_) (fun c2 => ?_)
    · skip
      have ir3 : IV x1 1 1 := iv_cutL ix1 (iv_c (by decide) : IV 0 0 0) c2 (by decide)
      have ir4 : IV y1 0 3 := ox1 c2
      refine lv_aload_n hx hb dX10_map_10 rfl (lv_at hl 0 rfl) ?_
      refine th_get S hK hH inG10 t0 kd_0 rfl 4 (by decide) gm_509 rfl rfl dX10_map_11 (fun v5 hv5 fv5 => ?_)
      obtain ⟨rf6, rfl, trf6⟩ := th_V.ref hv5
      refine th_callVr (n := 0) (As := []) S hK hH hS (th_A.sub (by decide)) (m_X3_now l D cT T q hq rf6 trf6) gm_828 gm_825 gm_826 gm_827 gm_120 (by decide +kernel) ⟨rfl, rfl, Nat.le_of_ble_eq_true rfl, Nat.le_of_ble_eq_true rfl⟩ trf6 kd_5 rfl rfl hl.1 rfl (Nat.le_of_ble_eq_true rfl) dX10_map_14 ⟨Nat.zero_le _, Nat.zero_le _⟩ (fun rf7 H locs trf7 hH hS hF1 => ?_)
      refine lv_astore_n (lv' := [(3, .ref rf7), (0, .ref a0), (1, .int y1), (2, .int y2)]) hx hb dX10_map_17 rfl hl (by decide) rfl (fun ls hl => ?_)
      refine lv_iload_n hx hb dX10_map_18 rfl (lv_at hl 3 rfl) ?_
      by_cases c8 : y2.toInt < 0 ∨ 7 < y2.toInt
      · refine lv_tableOut (tgt := 146) hx hb dX10_map_19 c8 (by decide) ?_
        refine lv_iconst (v := (-1)) hx hb dX10_map_146 (by decide) ?_
        exact th_iret S hK hH hS hr hlocks (th_R.i (iv_top _)) dX10_map_147
      · rcases (show y2.toInt = 0 ∨ y2.toInt = 1 ∨ y2.toInt = 2 ∨ y2.toInt = 3 ∨ y2.toInt = 4 ∨ y2.toInt = 5 ∨ y2.toInt = 6 ∨ y2.toInt = 7 by omega) with c8b | c8b | c8b | c8b | c8b | c8b | c8b | c8b
        · refine lv_tableIn (tgt := 64) (off := 45) hx hb dX10_map_19 (by omega) (by omega) (by rw [c8b]; rfl) (by decide) ?_
          refine lv_aload_n hx hb dX10_map_64 rfl (lv_at hl 1 rfl) ?_
          refine th_get S hK hH inG10 t0 kd_0 rfl 2 (by decide) gm_507 rfl rfl dX10_map_65 (fun v9 hv9 fv9 => ?_)
          obtain ⟨rf10, rfl, trf10⟩ := th_V.ref hv9
          refine th_get S hK hH inG4 trf10 kd_3 rfl 3 (by decide) gm_244 rfl rfl dX10_map_68 (fun v11 hv11 fv11 => ?_)
          obtain ⟨rf12, rfl, trf12⟩ := th_V.ref hv11
          refine lv_iload_n hx hb dX10_map_71 rfl (lv_at hl 2 rfl) ?_
          refine th_iald S hK hH trf12 kd_23 (th_in (hi := 3) ir4 (by decide)) dX10_map_72 (fun v13 hv13 => ?_)
          obtain ⟨x14, rfl, ix14⟩ := th_V.int hv13
          exact th_iret S hK hH hS hr hlocks (th_R.i ix14) dX10_map_73
        · refine lv_tableIn (tgt := 74) (off := 55) hx hb dX10_map_19 (by omega) (by omega) (by rw [c8b]; rfl) (by decide) ?_
          refine lv_aload_n hx hb dX10_map_74 rfl (lv_at hl 1 rfl) ?_
          refine th_get S hK hH inG10 t0 kd_0 rfl 3 (by decide) gm_508 rfl rfl dX10_map_75 (fun v15 hv15 fv15 => ?_)
          obtain ⟨rf16, rfl, trf16⟩ := th_V.ref hv15
          refine lv_aload_n hx hb dX10_map_78 rfl (lv_at hl 0 rfl) ?_
          refine lv_iload_n hx hb dX10_map_79 rfl (lv_at hl 2 rfl) ?_
          refine th_callVi (n := 2) (As := [.ref rf7, .int y1]) S hK hH hS (th_A.sub (by decide)) (m_X0_hungerOf l D cT T q hq rf16 trf16 rf7 trf7 (y1) ir4) gm_840 gm_837 gm_838 gm_839 gm_119 (by decide +kernel) ⟨rfl, rfl, Nat.le_of_ble_eq_true rfl, Nat.le_of_ble_eq_true rfl⟩ trf16 kd_4 rfl rfl hl.1 rfl (Nat.le_of_ble_eq_true rfl) dX10_map_80 ⟨Nat.zero_le _, Nat.zero_le _⟩ (fun x17 H locs ix17 hH hS hF1 => ?_)
          have f18 := fv15.kept (hF1 _ fv15.lt (th_off t0 (by decide)))
          exact th_iret S hK hH hS hr hlocks (th_R.i (iv_top _)) dX10_map_83
        · refine lv_tableIn (tgt := 84) (off := 65) hx hb dX10_map_19 (by omega) (by omega) (by rw [c8b]; rfl) (by decide) ?_
          refine lv_aload_n hx hb dX10_map_84 rfl (lv_at hl 1 rfl) ?_
          refine th_get S hK hH inG10 t0 kd_0 rfl 3 (by decide) gm_508 rfl rfl dX10_map_85 (fun v19 hv19 fv19 => ?_)
          obtain ⟨rf20, rfl, trf20⟩ := th_V.ref hv19
          refine lv_aload_n hx hb dX10_map_88 rfl (lv_at hl 0 rfl) ?_
          refine lv_iload_n hx hb dX10_map_89 rfl (lv_at hl 2 rfl) ?_
          refine th_callVi (n := 2) (As := [.ref rf7, .int y1]) S hK hH hS (th_A.sub (by decide)) (m_X0_givenTo l D cT T q hq rf20 trf20 rf7 trf7 (y1) ir4) gm_858 gm_855 gm_856 gm_857 gm_119 (by decide +kernel) ⟨rfl, rfl, Nat.le_of_ble_eq_true rfl, Nat.le_of_ble_eq_true rfl⟩ trf20 kd_4 rfl rfl hl.1 rfl (Nat.le_of_ble_eq_true rfl) dX10_map_90 ⟨Nat.zero_le _, Nat.zero_le _⟩ (fun x21 H locs ix21 hH hS hF1 => ?_)
          have f22 := fv19.kept (hF1 _ fv19.lt (th_off t0 (by decide)))
          exact th_iret S hK hH hS hr hlocks (th_R.i ix21) dX10_map_93
        · refine lv_tableIn (tgt := 94) (off := 75) hx hb dX10_map_19 (by omega) (by omega) (by rw [c8b]; rfl) (by decide) ?_
          refine lv_aload_n hx hb dX10_map_94 rfl (lv_at hl 0 rfl) ?_
          refine th_get S hK hH inG7 trf7 kd_10 rfl 0 (by decide) gm_231 rfl rfl dX10_map_95 (fun v23 hv23 fv23 => ?_)
          obtain ⟨rf24, rfl, trf24⟩ := th_V.ref hv23
          refine lv_bipush (v := 31) hx hb dX10_map_98 (by decide) ?_
          refine lv_iload_n hx hb dX10_map_100 rfl (lv_at hl 2 rfl) ?_
          refine lv_iadd hx hb dX10_map_101 ?_
          refine lv_topi (fun x25 ex25 => ?_)
          have ix25 : IV x25 31 34 := by rw [ex25]; exact iv_add (iv_c (by decide) : IV 31 31 31) ir4 (by decide)
          refine th_iald S hK hH trf24 kd_29 (th_in (hi := 34) (iv_w ix25 (by decide)) (by decide)) dX10_map_102 (fun v26 hv26 => ?_)
          obtain ⟨x27, rfl, ix27⟩ := th_V.int hv26
          exact th_iret S hK hH hS hr hlocks (th_R.i ix27) dX10_map_103
        · refine lv_tableIn (tgt := 104) (off := 85) hx hb dX10_map_19 (by omega) (by omega) (by rw [c8b]; rfl) (by decide) ?_
          refine lv_aload_n hx hb dX10_map_104 rfl (lv_at hl 0 rfl) ?_
          refine th_get S hK hH inG7 trf7 kd_10 rfl 0 (by decide) gm_231 rfl rfl dX10_map_105 (fun v28 hv28 fv28 => ?_)
          obtain ⟨rf29, rfl, trf29⟩ := th_V.ref hv28
          refine lv_bipush (v := 39) hx hb dX10_map_108 (by decide) ?_
          refine th_iald S hK hH trf29 kd_29 (th_in (hi := 39) (iv_w (iv_c (by decide) : IV 39 39 39) (by decide)) (by decide)) dX10_map_110 (fun v30 hv30 => ?_)
          obtain ⟨x31, rfl, ix31⟩ := th_V.int hv30
          refine lv_iload_n hx hb dX10_map_111 rfl (lv_at hl 2 rfl) ?_
          refine lv_ishr hx hb dX10_map_112 ?_
          refine lv_topi (fun x32 ex32 => ?_)
          have ix32 := iv_top x32
          refine lv_iconst (v := 1) hx hb dX10_map_113 (by decide) ?_
          refine lv_iand hx hb dX10_map_114 ?_
          refine lv_topi (fun x33 ex33 => ?_)
          have ix33 : IV x33 0 1 := by rw [ex33]; exact iv_and (h2 := 1) (iv_w (iv_c (by decide) : IV 1 1 1) (by decide)) (by decide)
          exact th_iret S hK hH hS hr hlocks (th_R.i (iv_top _)) dX10_map_115
        · refine lv_tableIn (tgt := 116) (off := 97) hx hb dX10_map_19 (by omega) (by omega) (by rw [c8b]; rfl) (by decide) ?_
          refine lv_aload_n hx hb dX10_map_116 rfl (lv_at hl 0 rfl) ?_
          refine th_get S hK hH inG7 trf7 kd_10 rfl 0 (by decide) gm_231 rfl rfl dX10_map_117 (fun v34 hv34 fv34 => ?_)
          obtain ⟨rf35, rfl, trf35⟩ := th_V.ref hv34
          refine lv_bipush (v := 35) hx hb dX10_map_120 (by decide) ?_
          refine lv_iload_n hx hb dX10_map_122 rfl (lv_at hl 2 rfl) ?_
          refine lv_iadd hx hb dX10_map_123 ?_
          refine lv_topi (fun x36 ex36 => ?_)
          have ix36 : IV x36 35 38 := by rw [ex36]; exact iv_add (iv_c (by decide) : IV 35 35 35) ir4 (by decide)
          refine th_iald S hK hH trf35 kd_29 (th_in (hi := 38) (iv_w ix36 (by decide)) (by decide)) dX10_map_124 (fun v37 hv37 => ?_)
          obtain ⟨x38, rfl, ix38⟩ := th_V.int hv37
          exact th_iret S hK hH hS hr hlocks (th_R.i ix38) dX10_map_125
        · refine lv_tableIn (tgt := 126) (off := 107) hx hb dX10_map_19 (by omega) (by omega) (by rw [c8b]; rfl) (by decide) ?_
          refine lv_aload_n hx hb dX10_map_126 rfl (lv_at hl 1 rfl) ?_
          refine th_get S hK hH inG10 t0 kd_0 rfl 2 (by decide) gm_507 rfl rfl dX10_map_127 (fun v39 hv39 fv39 => ?_)
          obtain ⟨rf40, rfl, trf40⟩ := th_V.ref hv39
          refine th_get S hK hH inG4 trf40 kd_3 rfl 6 (by decide) gm_255 rfl rfl dX10_map_130 (fun v41 hv41 fv41 => ?_)
          obtain ⟨rf42, rfl, trf42⟩ := th_V.ref hv41
          refine lv_iload_n hx hb dX10_map_133 rfl (lv_at hl 2 rfl) ?_
          refine th_iald S hK hH trf42 kd_26 (th_in (hi := 3) ir4 (by decide)) dX10_map_134 (fun v43 hv43 => ?_)
          obtain ⟨x44, rfl, ix44⟩ := th_V.int hv43
          exact th_iret S hK hH hS hr hlocks (th_R.i ix44) dX10_map_135
        · refine lv_tableIn (tgt := 136) (off := 117) hx hb dX10_map_19 (by omega) (by omega) (by rw [c8b]; rfl) (by decide) ?_
          refine lv_aload_n hx hb dX10_map_136 rfl (lv_at hl 1 rfl) ?_
          refine th_get S hK hH inG10 t0 kd_0 rfl 2 (by decide) gm_507 rfl rfl dX10_map_137 (fun v45 hv45 fv45 => ?_)
          obtain ⟨rf46, rfl, trf46⟩ := th_V.ref hv45
          refine th_get S hK hH inG4 trf46 kd_3 rfl 7 (by decide) gm_259 rfl rfl dX10_map_140 (fun v47 hv47 fv47 => ?_)
          obtain ⟨rf48, rfl, trf48⟩ := th_V.ref hv47
          refine lv_iload_n hx hb dX10_map_143 rfl (lv_at hl 2 rfl) ?_
          refine th_iald S hK hH trf48 kd_27 (th_in (hi := 3) ir4 (by decide)) dX10_map_144 (fun v49 hv49 => ?_)
          obtain ⟨x50, rfl, ix50⟩ := th_V.int hv49
          exact th_iret S hK hH hS hr hlocks (th_R.i ix50) dX10_map_145
    · skip
      have ir51 : IV x1 0 0 := iv_eL c2 (iv_c (by decide) : IV 0 0 0)
      refine lv_iconst (v := (-1)) hx hb dX10_map_8 (by decide) ?_
      exact th_iret S hK hH hS hr hlocks (th_R.i (iv_top _)) dX10_map_9
  exact J0 s.heap [] ls hH va_S.rf hl

set_option maxRecDepth 100000 in
theorem m_X10_isPlace (l : Launch) (D : va_G) (cT : Nat → ClassId) (T : Nat → Option Nat) (q : Nat → Int) (hq : qok q) (a0 : Nat) (t0 : T a0 = some 0) (y1 : Int32) (j1 : IV y1 (-2147483648) 2147483647) : th_Met l D cT T (kd q) yX10_isPlace cX10_isPlace 2 (some .boolean) (rmk 0 0) [.ref a0, .int y1] (th_RG y1 0 7) [] := by
  refine th_start (by decide) (Nat.le_of_ble_eq_true rfl) ?_
  intro p e s m below meth c ls S hK hH hr hlocks hnm hl
  have hx := S.1
  have hb := S.2.1
  have hl : lv_has ls 2 [(0, .ref a0), (1, .int y1)] := hl
  have J20_s0_0 : ∀ (H : Heap) (locs : List Loc) (ls : Array Slot), th_H D cT T (kd q) H → va_S (th_A T []) s.heap H locs → lv_has ls 2 [] → W p l e (rmk 0 0) s m [.ref a0, .int y1].toArray below meth c H locs 0 0 (MQ below (th_Q D cT T (kd q) (th_RG y1 0 7) []) [.ref a0, .int y1].toArray s 0 0 (th_A T [])) (F0 m 20 ls [.int 0]) := by
    intro H locs ls hH hS hl
    exact th_zret S hK hH hS hr hlocks (iv_w (iv_c (by decide) : IV 0 0 0) (by decide)) (th_RG.i (iv_w (iv_c (by decide) : IV 0 0 0) (by decide)) (fun z => absurd rfl z)) dX10_isPlace_20
  have J20_s0_1 : ∀ (H : Heap) (locs : List Loc) (ls : Array Slot), IV y1 0 7 → th_H D cT T (kd q) H → va_S (th_A T []) s.heap H locs → lv_has ls 2 [] → W p l e (rmk 0 0) s m [.ref a0, .int y1].toArray below meth c H locs 0 0 (MQ below (th_Q D cT T (kd q) (th_RG y1 0 7) []) [.ref a0, .int y1].toArray s 0 0 (th_A T [])) (F0 m 20 ls [.int 1]) := by
    intro H locs ls f20_y1 hH hS hl
    exact th_zret S hK hH hS hr hlocks (iv_w (iv_c (by decide) : IV 1 1 1) (by decide)) (th_RG.i (iv_w (iv_c (by decide) : IV 1 1 1) (by decide)) (fun _ => f20_y1)) dX10_isPlace_20
  have J19 : ∀ (H : Heap) (locs : List Loc) (ls : Array Slot), th_H D cT T (kd q) H → va_S (th_A T []) s.heap H locs → lv_has ls 2 [] → W p l e (rmk 0 0) s m [.ref a0, .int y1].toArray below meth c H locs 0 0 (MQ below (th_Q D cT T (kd q) (th_RG y1 0 7) []) [.ref a0, .int y1].toArray s 0 0 (th_A T [])) (F0 m 19 ls []) := by
    intro H locs ls hH hS hl
    refine lv_iconst (v := 0) hx hb dX10_isPlace_19 (by decide) ?_
    exact J20_s0_0 H locs ls  hH hS (lv_sub hl [] rfl)
  have J0 : ∀ (H : Heap) (locs : List Loc) (ls : Array Slot), th_H D cT T (kd q) H → va_S (th_A T []) s.heap H locs → lv_has ls 2 [(0, .ref a0), (1, .int y1)] → W p l e (rmk 0 0) s m [.ref a0, .int y1].toArray below meth c H locs 0 0 (MQ below (th_Q D cT T (kd q) (th_RG y1 0 7) []) [.ref a0, .int y1].toArray s 0 0 (th_A T [])) (F0 m 0 ls []) := by
    intro H locs ls hH hS hl
    refine lv_iload_n hx hb dX10_isPlace_0 rfl (lv_at hl 1 rfl) ?_
    refine lv_if_lt (tgt := 19) hx hb dX10_isPlace_1 (by decide) (fun c1 => ?_) (fun c1 => ?_)
    · skip
      have ir2 : IV y1 (-2147483648) (-1) := iv_uL j1 (iv_c (by decide) : IV 0 0 0) (iv_lt c1) (by decide)
      exact J19 H locs ls  hH hS (lv_sub hl [] rfl)
    · skip
      have ir3 : IV y1 0 2147483647 := iv_vR (iv_c (by decide) : IV 0 0 0) j1 (iv_nlt c1) (by decide)
      refine lv_iload_n hx hb dX10_isPlace_4 rfl (lv_at hl 1 rfl) ?_
      refine lv_aload_n hx hb dX10_isPlace_5 rfl (lv_at hl 0 rfl) ?_
      refine th_get S hK hH inG10 t0 kd_0 rfl 2 (by decide) gm_507 rfl rfl dX10_isPlace_6 (fun v4 hv4 fv4 => ?_)
      obtain ⟨rf5, rfl, trf5⟩ := th_V.ref hv4
      refine th_get S hK hH inG4 trf5 kd_3 rfl 13 (by decide) gm_287 rfl rfl dX10_isPlace_9 (fun v6 hv6 fv6 => ?_)
      obtain ⟨x7, rfl, ix7⟩ := th_V.int hv6
      refine lv_icmp_ge (tgt := 19) hx hb dX10_isPlace_12 (by decide) (fun c8 => ?_) (fun c8 => ?_)
      · skip
        exact J19 H locs ls  hH hS (lv_sub hl [] rfl)
      · skip
        have ir9 : IV y1 0 7 := iv_uL ir3 ix7 (iv_nle c8) (by decide)
        have ir10 : IV x7 1 8 := iv_uR ir3 ix7 (iv_nle c8) (by decide)
        refine lv_iconst (v := 1) hx hb dX10_isPlace_15 (by decide) ?_
        refine lv_goto (tgt := 20) hx hb dX10_isPlace_16 (by decide) ?_
        exact J20_s0_1 H locs ls ir9 hH hS (lv_sub hl [] rfl)
  exact J0 s.heap [] ls hH va_S.rf hl

set_option maxRecDepth 100000 in
theorem m_X10_place (l : Launch) (D : va_G) (cT : Nat → ClassId) (T : Nat → Option Nat) (q : Nat → Int) (hq : qok q) (a0 : Nat) (t0 : T a0 = some 0) (y1 : Int32) (j1 : IV y1 (-2147483648) 2147483647) (y2 : Int32) (j2 : IV y2 (-2147483648) 2147483647) : th_Met l D cT T (kd q) yX10_place cX10_place 3 (some .int) (rmk 1 21) [.ref a0, .int y1, .int y2] (th_R T (some (.inl (-2147483648, 2147483647)))) [] := by
  refine th_start (by decide) (Nat.le_of_ble_eq_true rfl) ?_
  intro p e s m below meth c ls S hK hH hr hlocks hnm hl
  have hx := S.1
  have hb := S.2.1
  have hl : lv_has ls 3 [(0, .ref a0), (1, .int y1), (2, .int y2)] := hl
  have J0 : ∀ (H : Heap) (locs : List Loc) (ls : Array Slot), th_H D cT T (kd q) H → va_S (th_A T []) s.heap H locs → lv_has ls 3 [(0, .ref a0), (1, .int y1), (2, .int y2)] → W p l e (rmk 1 21) s m [.ref a0, .int y1, .int y2].toArray below meth c H locs 0 0 (MQ below (th_Q D cT T (kd q) (th_R T (some (.inl (-2147483648, 2147483647)))) []) [.ref a0, .int y1, .int y2].toArray s 0 0 (th_A T [])) (F0 m 0 ls []) := by
    intro H locs ls hH hS hl
    refine lv_aload_n hx hb dX10_place_0 rfl (lv_at hl 0 rfl) ?_
    refine lv_iload_n hx hb dX10_place_1 rfl (lv_at hl 1 rfl) ?_
    refine th_callVg (n := 1) (As := [.int y1]) S hK hH hS (th_A.sub (by decide)) (m_X10_isPlace l D cT T q hq a0 t0 (y1) j1) gm_866 gm_863 gm_865 gm_26 gm_113 (by decide +kernel) ⟨rfl, rfl, Nat.le_of_ble_eq_true rfl, Nat.le_of_ble_eq_true rfl⟩ t0 kd_0 rfl rfl hl.1 rfl (Nat.le_of_ble_eq_true rfl) dX10_place_2 ⟨Nat.zero_le _, Nat.zero_le _⟩ (fun x1 H locs ix1 ox1 hH hS hF1 => ?_)
    refine lv_if_ne (tgt := 10) hx hb dX10_place_5 (by decide) (fun c2 => ?_) (fun c2 => ?_)
    · skip
      have ir3 : IV x1 1 1 := iv_cutL ix1 (iv_c (by decide) : IV 0 0 0) c2 (by decide)
      have ir4 : IV y1 0 7 := ox1 c2
      refine lv_iload_n hx hb dX10_place_10 rfl (lv_at hl 2 rfl) ?_
      by_cases c5 : y2.toInt < 0 ∨ 3 < y2.toInt
      · refine lv_tableOut (tgt := 92) hx hb dX10_place_11 c5 (by decide) ?_
        refine lv_iconst (v := (-1)) hx hb dX10_place_92 (by decide) ?_
        exact th_iret S hK hH hS hr hlocks (th_R.i (iv_top _)) dX10_place_93
      · rcases (show y2.toInt = 0 ∨ y2.toInt = 1 ∨ y2.toInt = 2 ∨ y2.toInt = 3 by omega) with c5b | c5b | c5b | c5b
        · refine lv_tableIn (tgt := 40) (off := 29) hx hb dX10_place_11 (by omega) (by omega) (by rw [c5b]; rfl) (by decide) ?_
          refine lv_aload_n hx hb dX10_place_40 rfl (lv_at hl 0 rfl) ?_
          refine th_get S hK hH inG10 t0 kd_0 rfl 4 (by decide) gm_509 rfl rfl dX10_place_41 (fun v6 hv6 fv6 => ?_)
          obtain ⟨rf7, rfl, trf7⟩ := th_V.ref hv6
          refine th_callVr (n := 0) (As := []) S hK hH hS (th_A.sub (by decide)) (m_X3_now l D cT T q hq rf7 trf7) gm_828 gm_825 gm_826 gm_827 gm_120 (by decide +kernel) ⟨rfl, rfl, Nat.le_of_ble_eq_true rfl, Nat.le_of_ble_eq_true rfl⟩ trf7 kd_5 rfl rfl hl.1 rfl (Nat.le_of_ble_eq_true rfl) dX10_place_44 ⟨Nat.zero_le _, Nat.zero_le _⟩ (fun rf8 H locs trf8 hH hS hF1 => ?_)
          have f9 := fv6.kept (hF1 _ fv6.lt (th_off t0 (by decide)))
          refine th_get S hK hH inG7 trf8 kd_10 rfl 0 (by decide) gm_231 rfl rfl dX10_place_47 (fun v10 hv10 fv10 => ?_)
          obtain ⟨rf11, rfl, trf11⟩ := th_V.ref hv10
          refine lv_bipush (v := 15) hx hb dX10_place_50 (by decide) ?_
          refine lv_iload_n hx hb dX10_place_52 rfl (lv_at hl 1 rfl) ?_
          refine lv_iadd hx hb dX10_place_53 ?_
          refine lv_topi (fun x12 ex12 => ?_)
          have ix12 : IV x12 15 22 := by rw [ex12]; exact iv_add (iv_c (by decide) : IV 15 15 15) ir4 (by decide)
          refine th_iald S hK hH trf11 kd_29 (th_in (hi := 22) (iv_w ix12 (by decide)) (by decide)) dX10_place_54 (fun v13 hv13 => ?_)
          obtain ⟨x14, rfl, ix14⟩ := th_V.int hv13
          exact th_iret S hK hH hS hr hlocks (th_R.i ix14) dX10_place_55
        · refine lv_tableIn (tgt := 56) (off := 45) hx hb dX10_place_11 (by omega) (by omega) (by rw [c5b]; rfl) (by decide) ?_
          refine lv_aload_n hx hb dX10_place_56 rfl (lv_at hl 0 rfl) ?_
          refine th_get S hK hH inG10 t0 kd_0 rfl 2 (by decide) gm_507 rfl rfl dX10_place_57 (fun v15 hv15 fv15 => ?_)
          obtain ⟨rf16, rfl, trf16⟩ := th_V.ref hv15
          refine th_get S hK hH inG4 trf16 kd_3 rfl 4 (by decide) gm_248 rfl rfl dX10_place_60 (fun v17 hv17 fv17 => ?_)
          obtain ⟨rf18, rfl, trf18⟩ := th_V.ref hv17
          refine lv_iload_n hx hb dX10_place_63 rfl (lv_at hl 1 rfl) ?_
          refine th_iald S hK hH trf18 kd_24 (th_in (hi := 7) ir4 (by decide)) dX10_place_64 (fun v19 hv19 => ?_)
          obtain ⟨x20, rfl, ix20⟩ := th_V.int hv19
          exact th_iret S hK hH hS hr hlocks (th_R.i ix20) dX10_place_65
        · refine lv_tableIn (tgt := 66) (off := 55) hx hb dX10_place_11 (by omega) (by omega) (by rw [c5b]; rfl) (by decide) ?_
          refine lv_aload_n hx hb dX10_place_66 rfl (lv_at hl 0 rfl) ?_
          refine th_get S hK hH inG10 t0 kd_0 rfl 4 (by decide) gm_509 rfl rfl dX10_place_67 (fun v21 hv21 fv21 => ?_)
          obtain ⟨rf22, rfl, trf22⟩ := th_V.ref hv21
          refine th_callVr (n := 0) (As := []) S hK hH hS (th_A.sub (by decide)) (m_X3_now l D cT T q hq rf22 trf22) gm_828 gm_825 gm_826 gm_827 gm_120 (by decide +kernel) ⟨rfl, rfl, Nat.le_of_ble_eq_true rfl, Nat.le_of_ble_eq_true rfl⟩ trf22 kd_5 rfl rfl hl.1 rfl (Nat.le_of_ble_eq_true rfl) dX10_place_70 ⟨Nat.zero_le _, Nat.zero_le _⟩ (fun rf23 H locs trf23 hH hS hF1 => ?_)
          have f24 := fv21.kept (hF1 _ fv21.lt (th_off t0 (by decide)))
          refine th_get S hK hH inG7 trf23 kd_10 rfl 0 (by decide) gm_231 rfl rfl dX10_place_73 (fun v25 hv25 fv25 => ?_)
          obtain ⟨rf26, rfl, trf26⟩ := th_V.ref hv25
          refine lv_bipush (v := 23) hx hb dX10_place_76 (by decide) ?_
          refine lv_iload_n hx hb dX10_place_78 rfl (lv_at hl 1 rfl) ?_
          refine lv_iadd hx hb dX10_place_79 ?_
          refine lv_topi (fun x27 ex27 => ?_)
          have ix27 : IV x27 23 30 := by rw [ex27]; exact iv_add (iv_c (by decide) : IV 23 23 23) ir4 (by decide)
          refine th_iald S hK hH trf26 kd_29 (th_in (hi := 30) (iv_w ix27 (by decide)) (by decide)) dX10_place_80 (fun v28 hv28 => ?_)
          obtain ⟨x29, rfl, ix29⟩ := th_V.int hv28
          exact th_iret S hK hH hS hr hlocks (th_R.i ix29) dX10_place_81
        · refine lv_tableIn (tgt := 82) (off := 71) hx hb dX10_place_11 (by omega) (by omega) (by rw [c5b]; rfl) (by decide) ?_
          refine lv_aload_n hx hb dX10_place_82 rfl (lv_at hl 0 rfl) ?_
          refine th_get S hK hH inG10 t0 kd_0 rfl 2 (by decide) gm_507 rfl rfl dX10_place_83 (fun v30 hv30 fv30 => ?_)
          obtain ⟨rf31, rfl, trf31⟩ := th_V.ref hv30
          refine th_get S hK hH inG4 trf31 kd_3 rfl 5 (by decide) gm_251 rfl rfl dX10_place_86 (fun v32 hv32 fv32 => ?_)
          obtain ⟨rf33, rfl, trf33⟩ := th_V.ref hv32
          refine lv_iload_n hx hb dX10_place_89 rfl (lv_at hl 1 rfl) ?_
          refine th_iald S hK hH trf33 kd_25 (th_in (hi := 7) ir4 (by decide)) dX10_place_90 (fun v34 hv34 => ?_)
          obtain ⟨x35, rfl, ix35⟩ := th_V.int hv34
          exact th_iret S hK hH hS hr hlocks (th_R.i ix35) dX10_place_91
    · skip
      have ir36 : IV x1 0 0 := iv_eL c2 (iv_c (by decide) : IV 0 0 0)
      refine lv_iconst (v := (-1)) hx hb dX10_place_8 (by decide) ?_
      exact th_iret S hK hH hS hr hlocks (th_R.i (iv_top _)) dX10_place_9
  exact J0 s.heap [] ls hH va_S.rf hl

set_option maxRecDepth 100000 in
theorem m_X10_taste (l : Launch) (D : va_G) (cT : Nat → ClassId) (T : Nat → Option Nat) (q : Nat → Int) (hq : qok q) (a0 : Nat) (t0 : T a0 = some 0) (y1 : Int32) (j1 : IV y1 (-2147483648) 2147483647) (y2 : Int32) (j2 : IV y2 (-2147483648) 2147483647) : th_Met l D cT T (kd q) yX10_taste cX10_taste 3 (some .int) (rmk 2 51) [.ref a0, .int y1, .int y2] (th_R T (some (.inl (-2147483648, 2147483647)))) [18, 19] := by
  refine th_start (by decide) (Nat.le_of_ble_eq_true rfl) ?_
  intro p e s m below meth c ls S hK hH hr hlocks hnm hl
  have hx := S.1
  have hb := S.2.1
  have hl : lv_has ls 3 [(0, .ref a0), (1, .int y1), (2, .int y2)] := hl
  have J16 : ∀ (H : Heap) (locs : List Loc) (ls : Array Slot), th_H D cT T (kd q) H → va_S (th_A T [18, 19]) s.heap H locs → lv_has ls 3 [] → W p l e (rmk 2 51) s m [.ref a0, .int y1, .int y2].toArray below meth c H locs 0 0 (MQ below (th_Q D cT T (kd q) (th_R T (some (.inl (-2147483648, 2147483647)))) [18, 19]) [.ref a0, .int y1, .int y2].toArray s 0 0 (th_A T [18, 19])) (F0 m 16 ls []) := by
    intro H locs ls hH hS hl
    refine lv_ldc (v := (-1000000)) hx hb S.2.2.2.1 (S.2.2.2.2 _ gm_871) dX10_taste_16 ?_
    exact th_iret S hK hH hS hr hlocks (th_R.i (iv_top _)) dX10_taste_18
  have J0 : ∀ (H : Heap) (locs : List Loc) (ls : Array Slot), th_H D cT T (kd q) H → va_S (th_A T [18, 19]) s.heap H locs → lv_has ls 3 [(0, .ref a0), (1, .int y1), (2, .int y2)] → W p l e (rmk 2 51) s m [.ref a0, .int y1, .int y2].toArray below meth c H locs 0 0 (MQ below (th_Q D cT T (kd q) (th_R T (some (.inl (-2147483648, 2147483647)))) [18, 19]) [.ref a0, .int y1, .int y2].toArray s 0 0 (th_A T [18, 19])) (F0 m 0 ls []) := by
    intro H locs ls hH hS hl
    refine lv_aload_n hx hb dX10_taste_0 rfl (lv_at hl 0 rfl) ?_
    refine lv_iload_n hx hb dX10_taste_1 rfl (lv_at hl 1 rfl) ?_
    refine th_callVg (n := 1) (As := [.int y1]) S hK hH hS (th_A.sub (by decide)) (m_X10_isPlace l D cT T q hq a0 t0 (y1) j1) gm_866 gm_863 gm_865 gm_26 gm_113 (by decide +kernel) ⟨rfl, rfl, Nat.le_of_ble_eq_true rfl, Nat.le_of_ble_eq_true rfl⟩ t0 kd_0 rfl rfl hl.1 rfl (Nat.le_of_ble_eq_true rfl) dX10_taste_2 ⟨Nat.zero_le _, Nat.zero_le _⟩ (fun x1 H locs ix1 ox1 hH hS hF1 => ?_)
    refine lv_if_eq (tgt := 16) hx hb dX10_taste_5 (by decide) (fun c2 => ?_) (fun c2 => ?_)
    · skip
      have ir3 : IV x1 0 0 := iv_eL c2 (iv_c (by decide) : IV 0 0 0)
      exact J16 H locs ls  hH hS (lv_sub hl [] rfl)
    · skip
      have ir4 : IV x1 1 1 := iv_cutL ix1 (iv_c (by decide) : IV 0 0 0) c2 (by decide)
      have ir5 : IV y1 0 7 := ox1 c2
      refine lv_aload_n hx hb dX10_taste_8 rfl (lv_at hl 0 rfl) ?_
      refine lv_iload_n hx hb dX10_taste_9 rfl (lv_at hl 2 rfl) ?_
      refine th_callVg (n := 1) (As := [.int y2]) S hK hH hS (th_A.sub (by decide)) (m_X10_isMap l D cT T q hq a0 t0 (y2) j2) gm_836 gm_833 gm_835 gm_24 gm_113 (by decide +kernel) ⟨rfl, rfl, Nat.le_of_ble_eq_true rfl, Nat.le_of_ble_eq_true rfl⟩ t0 kd_0 rfl rfl hl.1 rfl (Nat.le_of_ble_eq_true rfl) dX10_taste_10 ⟨Nat.zero_le _, Nat.zero_le _⟩ (fun x6 H locs ix6 ox6 hH hS hF1 => ?_)
      refine lv_if_ne (tgt := 19) hx hb dX10_taste_13 (by decide) (fun c7 => ?_) (fun c7 => ?_)
      · skip
        have ir8 : IV x6 1 1 := iv_cutL ix6 (iv_c (by decide) : IV 0 0 0) c7 (by decide)
        have ir9 : IV y2 0 3 := ox6 c7
        refine lv_aload_n hx hb dX10_taste_19 rfl (lv_at hl 0 rfl) ?_
        refine th_get S hK hH inG10 t0 kd_0 rfl 3 (by decide) gm_508 rfl rfl dX10_taste_20 (fun v10 hv10 fv10 => ?_)
        obtain ⟨rf11, rfl, trf11⟩ := th_V.ref hv10
        refine lv_aload_n hx hb dX10_taste_23 rfl (lv_at hl 0 rfl) ?_
        refine th_get S hK hH inG10 t0 kd_0 rfl 4 (by decide) gm_509 rfl rfl dX10_taste_24 (fun v12 hv12 fv12 => ?_)
        obtain ⟨rf13, rfl, trf13⟩ := th_V.ref hv12
        refine th_callVr (n := 0) (As := []) S hK hH hS (th_A.sub (by decide)) (m_X3_now l D cT T q hq rf13 trf13) gm_828 gm_825 gm_826 gm_827 gm_120 (by decide +kernel) ⟨rfl, rfl, Nat.le_of_ble_eq_true rfl, Nat.le_of_ble_eq_true rfl⟩ trf13 kd_5 rfl rfl hl.1 rfl (Nat.le_of_ble_eq_true rfl) dX10_taste_27 ⟨Nat.zero_le _, Nat.zero_le _⟩ (fun rf14 H locs trf14 hH hS hF1 => ?_)
        refine lv_iload_n hx hb dX10_taste_30 rfl (lv_at hl 1 rfl) ?_
        refine lv_iload_n hx hb dX10_taste_31 rfl (lv_at hl 2 rfl) ?_
        refine th_callVi (n := 3) (As := [.ref rf14, .int y1, .int y2]) S hK hH hS (th_A.sub (by decide)) (m_X0_tasteOf l D cT T q hq rf11 trf11 rf14 trf14 (y1) ir5 (y2) ir9) gm_875 gm_872 gm_873 gm_874 gm_119 (by decide +kernel) ⟨rfl, rfl, Nat.le_of_ble_eq_true rfl, Nat.le_of_ble_eq_true rfl⟩ trf11 kd_4 rfl rfl hl.1 rfl (Nat.le_of_ble_eq_true rfl) dX10_taste_32 ⟨Nat.zero_le _, Nat.zero_le _⟩ (fun x15 H locs ix15 hH hS hF1 => ?_)
        exact th_iret S hK hH hS hr hlocks (th_R.i ix15) dX10_taste_35
      · skip
        have ir16 : IV x6 0 0 := iv_eL c7 (iv_c (by decide) : IV 0 0 0)
        exact J16 H locs ls  hH hS (lv_sub hl [] rfl)
  exact J0 s.heap [] ls hH va_S.rf hl

set_option maxRecDepth 100000 in
theorem m_X10_likes (l : Launch) (D : va_G) (cT : Nat → ClassId) (T : Nat → Option Nat) (q : Nat → Int) (hq : qok q) (a0 : Nat) (t0 : T a0 = some 0) (y1 : Int32) (j1 : IV y1 (-2147483648) 2147483647) (y2 : Int32) (j2 : IV y2 (-2147483648) 2147483647) : th_Met l D cT T (kd q) yX10_likes cX10_likes 3 (some .int) (rmk 1 21) [.ref a0, .int y1, .int y2] (th_R T (some (.inl (-2147483648, 2147483647)))) [] := by
  refine th_start (by decide) (Nat.le_of_ble_eq_true rfl) ?_
  intro p e s m below meth c ls S hK hH hr hlocks hnm hl
  have hx := S.1
  have hb := S.2.1
  have hl : lv_has ls 3 [(0, .ref a0), (1, .int y1), (2, .int y2)] := hl
  have J33 : ∀ (H : Heap) (locs : List Loc) (ls : Array Slot) (w33_0 : Int32), IV w33_0 (-2147483648) 2147483647 → th_H D cT T (kd q) H → va_S (th_A T []) s.heap H locs → lv_has ls 3 [] → W p l e (rmk 1 21) s m [.ref a0, .int y1, .int y2].toArray below meth c H locs 0 0 (MQ below (th_Q D cT T (kd q) (th_R T (some (.inl (-2147483648, 2147483647)))) []) [.ref a0, .int y1, .int y2].toArray s 0 0 (th_A T [])) (F0 m 33 ls [.int w33_0]) := by
    intro H locs ls w33_0 iw33_0 hH hS hl
    exact th_iret S hK hH hS hr hlocks (th_R.i iw33_0) dX10_likes_33
  have J33_s0_m1 : ∀ (H : Heap) (locs : List Loc) (ls : Array Slot), th_H D cT T (kd q) H → va_S (th_A T []) s.heap H locs → lv_has ls 3 [] → W p l e (rmk 1 21) s m [.ref a0, .int y1, .int y2].toArray below meth c H locs 0 0 (MQ below (th_Q D cT T (kd q) (th_R T (some (.inl (-2147483648, 2147483647)))) []) [.ref a0, .int y1, .int y2].toArray s 0 0 (th_A T [])) (F0 m 33 ls [.int (-1)]) := by
    intro H locs ls hH hS hl
    exact th_iret S hK hH hS hr hlocks (th_R.i (iv_top _)) dX10_likes_33
  have J32 : ∀ (H : Heap) (locs : List Loc) (ls : Array Slot), th_H D cT T (kd q) H → va_S (th_A T []) s.heap H locs → lv_has ls 3 [] → W p l e (rmk 1 21) s m [.ref a0, .int y1, .int y2].toArray below meth c H locs 0 0 (MQ below (th_Q D cT T (kd q) (th_R T (some (.inl (-2147483648, 2147483647)))) []) [.ref a0, .int y1, .int y2].toArray s 0 0 (th_A T [])) (F0 m 32 ls []) := by
    intro H locs ls hH hS hl
    refine lv_iconst (v := (-1)) hx hb dX10_likes_32 (by decide) ?_
    exact J33_s0_m1 H locs ls  hH hS (lv_sub hl [] rfl)
  have J0 : ∀ (H : Heap) (locs : List Loc) (ls : Array Slot), th_H D cT T (kd q) H → va_S (th_A T []) s.heap H locs → lv_has ls 3 [(0, .ref a0), (1, .int y1), (2, .int y2)] → W p l e (rmk 1 21) s m [.ref a0, .int y1, .int y2].toArray below meth c H locs 0 0 (MQ below (th_Q D cT T (kd q) (th_R T (some (.inl (-2147483648, 2147483647)))) []) [.ref a0, .int y1, .int y2].toArray s 0 0 (th_A T [])) (F0 m 0 ls []) := by
    intro H locs ls hH hS hl
    refine lv_aload_n hx hb dX10_likes_0 rfl (lv_at hl 0 rfl) ?_
    refine lv_iload_n hx hb dX10_likes_1 rfl (lv_at hl 1 rfl) ?_
    refine th_callVg (n := 1) (As := [.int y1]) S hK hH hS (th_A.sub (by decide)) (m_X10_isMap l D cT T q hq a0 t0 (y1) j1) gm_836 gm_833 gm_835 gm_24 gm_113 (by decide +kernel) ⟨rfl, rfl, Nat.le_of_ble_eq_true rfl, Nat.le_of_ble_eq_true rfl⟩ t0 kd_0 rfl rfl hl.1 rfl (Nat.le_of_ble_eq_true rfl) dX10_likes_2 ⟨Nat.zero_le _, Nat.zero_le _⟩ (fun x1 H locs ix1 ox1 hH hS hF1 => ?_)
    refine lv_if_eq (tgt := 32) hx hb dX10_likes_5 (by decide) (fun c2 => ?_) (fun c2 => ?_)
    · skip
      have ir3 : IV x1 0 0 := iv_eL c2 (iv_c (by decide) : IV 0 0 0)
      exact J32 H locs ls  hH hS (lv_sub hl [] rfl)
    · skip
      have ir4 : IV x1 1 1 := iv_cutL ix1 (iv_c (by decide) : IV 0 0 0) c2 (by decide)
      have ir5 : IV y1 0 3 := ox1 c2
      refine lv_aload_n hx hb dX10_likes_8 rfl (lv_at hl 0 rfl) ?_
      refine lv_iload_n hx hb dX10_likes_9 rfl (lv_at hl 2 rfl) ?_
      refine th_callVg (n := 1) (As := [.int y2]) S hK hH hS (th_A.sub (by decide)) (m_X10_isFood l D cT T q hq a0 t0 (y2) j2) gm_824 gm_821 gm_823 gm_23 gm_113 (by decide +kernel) ⟨rfl, rfl, Nat.le_of_ble_eq_true rfl, Nat.le_of_ble_eq_true rfl⟩ t0 kd_0 rfl rfl hl.1 rfl (Nat.le_of_ble_eq_true rfl) dX10_likes_10 ⟨Nat.zero_le _, Nat.zero_le _⟩ (fun x6 H locs ix6 ox6 hH hS hF1 => ?_)
      refine lv_if_eq (tgt := 32) hx hb dX10_likes_13 (by decide) (fun c7 => ?_) (fun c7 => ?_)
      · skip
        have ir8 : IV x6 0 0 := iv_eL c7 (iv_c (by decide) : IV 0 0 0)
        exact J32 H locs ls  hH hS (lv_sub hl [] rfl)
      · skip
        have ir9 : IV x6 1 1 := iv_cutL ix6 (iv_c (by decide) : IV 0 0 0) c7 (by decide)
        have ir10 : IV y2 0 2 := ox6 c7
        refine lv_aload_n hx hb dX10_likes_16 rfl (lv_at hl 0 rfl) ?_
        refine th_get S hK hH inG10 t0 kd_0 rfl 2 (by decide) gm_507 rfl rfl dX10_likes_17 (fun v11 hv11 fv11 => ?_)
        obtain ⟨rf12, rfl, trf12⟩ := th_V.ref hv11
        refine th_get S hK hH inG4 trf12 kd_3 rfl 8 (by decide) gm_266 rfl rfl dX10_likes_20 (fun v13 hv13 fv13 => ?_)
        obtain ⟨rf14, rfl, trf14⟩ := th_V.ref hv13
        refine lv_iload_n hx hb dX10_likes_23 rfl (lv_at hl 1 rfl) ?_
        refine lv_iconst (v := 3) hx hb dX10_likes_24 (by decide) ?_
        refine lv_imul hx hb dX10_likes_25 ?_
        refine lv_topi (fun x15 ex15 => ?_)
        have ix15 : IV x15 0 9 := by rw [ex15]; exact iv_mul ir5 (iv_c (by decide) : IV 3 3 3) (by decide) (by decide)
        refine lv_iload_n hx hb dX10_likes_26 rfl (lv_at hl 2 rfl) ?_
        refine lv_iadd hx hb dX10_likes_27 ?_
        refine lv_topi (fun x16 ex16 => ?_)
        have ix16 : IV x16 0 11 := by rw [ex16]; exact iv_add ix15 ir10 (by decide)
        refine th_iald S hK hH trf14 kd_28 (th_in (hi := 11) ix16 (by decide)) dX10_likes_28 (fun v17 hv17 => ?_)
        obtain ⟨x18, rfl, ix18⟩ := th_V.int hv17
        refine lv_goto (tgt := 33) hx hb dX10_likes_29 (by decide) ?_
        exact J33 H locs ls x18 ix18 hH hS (lv_sub hl [] rfl)
  exact J0 s.heap [] ls hH va_S.rf hl

set_option maxRecDepth 100000 in
theorem m_X10_trough (l : Launch) (D : va_G) (cT : Nat → ClassId) (T : Nat → Option Nat) (q : Nat → Int) (hq : qok q) (a0 : Nat) (t0 : T a0 = some 0) (y1 : Int32) (j1 : IV y1 (-2147483648) 2147483647) (y2 : Int32) (j2 : IV y2 (-2147483648) 2147483647) : th_Met l D cT T (kd q) yX10_trough cX10_trough 3 (some .int) (rmk 1 21) [.ref a0, .int y1, .int y2] (th_R T (some (.inl (-2147483648, 2147483647)))) [] := by
  refine th_start (by decide) (Nat.le_of_ble_eq_true rfl) ?_
  intro p e s m below meth c ls S hK hH hr hlocks hnm hl
  have hx := S.1
  have hb := S.2.1
  have hl : lv_has ls 3 [(0, .ref a0), (1, .int y1), (2, .int y2)] := hl
  have J38 : ∀ (H : Heap) (locs : List Loc) (ls : Array Slot) (w38_0 : Int32), IV w38_0 (-2147483648) 2147483647 → th_H D cT T (kd q) H → va_S (th_A T []) s.heap H locs → lv_has ls 3 [] → W p l e (rmk 1 21) s m [.ref a0, .int y1, .int y2].toArray below meth c H locs 0 0 (MQ below (th_Q D cT T (kd q) (th_R T (some (.inl (-2147483648, 2147483647)))) []) [.ref a0, .int y1, .int y2].toArray s 0 0 (th_A T [])) (F0 m 38 ls [.int w38_0]) := by
    intro H locs ls w38_0 iw38_0 hH hS hl
    exact th_iret S hK hH hS hr hlocks (th_R.i iw38_0) dX10_trough_38
  have J38_s0_m1 : ∀ (H : Heap) (locs : List Loc) (ls : Array Slot), th_H D cT T (kd q) H → va_S (th_A T []) s.heap H locs → lv_has ls 3 [] → W p l e (rmk 1 21) s m [.ref a0, .int y1, .int y2].toArray below meth c H locs 0 0 (MQ below (th_Q D cT T (kd q) (th_R T (some (.inl (-2147483648, 2147483647)))) []) [.ref a0, .int y1, .int y2].toArray s 0 0 (th_A T [])) (F0 m 38 ls [.int (-1)]) := by
    intro H locs ls hH hS hl
    exact th_iret S hK hH hS hr hlocks (th_R.i (iv_top _)) dX10_trough_38
  have J37 : ∀ (H : Heap) (locs : List Loc) (ls : Array Slot), th_H D cT T (kd q) H → va_S (th_A T []) s.heap H locs → lv_has ls 3 [] → W p l e (rmk 1 21) s m [.ref a0, .int y1, .int y2].toArray below meth c H locs 0 0 (MQ below (th_Q D cT T (kd q) (th_R T (some (.inl (-2147483648, 2147483647)))) []) [.ref a0, .int y1, .int y2].toArray s 0 0 (th_A T [])) (F0 m 37 ls []) := by
    intro H locs ls hH hS hl
    refine lv_iconst (v := (-1)) hx hb dX10_trough_37 (by decide) ?_
    exact J38_s0_m1 H locs ls  hH hS (lv_sub hl [] rfl)
  have J0 : ∀ (H : Heap) (locs : List Loc) (ls : Array Slot), th_H D cT T (kd q) H → va_S (th_A T []) s.heap H locs → lv_has ls 3 [(0, .ref a0), (1, .int y1), (2, .int y2)] → W p l e (rmk 1 21) s m [.ref a0, .int y1, .int y2].toArray below meth c H locs 0 0 (MQ below (th_Q D cT T (kd q) (th_R T (some (.inl (-2147483648, 2147483647)))) []) [.ref a0, .int y1, .int y2].toArray s 0 0 (th_A T [])) (F0 m 0 ls []) := by
    intro H locs ls hH hS hl
    refine lv_aload_n hx hb dX10_trough_0 rfl (lv_at hl 0 rfl) ?_
    refine lv_iload_n hx hb dX10_trough_1 rfl (lv_at hl 1 rfl) ?_
    refine th_callVg (n := 1) (As := [.int y1]) S hK hH hS (th_A.sub (by decide)) (m_X10_isMap l D cT T q hq a0 t0 (y1) j1) gm_836 gm_833 gm_835 gm_24 gm_113 (by decide +kernel) ⟨rfl, rfl, Nat.le_of_ble_eq_true rfl, Nat.le_of_ble_eq_true rfl⟩ t0 kd_0 rfl rfl hl.1 rfl (Nat.le_of_ble_eq_true rfl) dX10_trough_2 ⟨Nat.zero_le _, Nat.zero_le _⟩ (fun x1 H locs ix1 ox1 hH hS hF1 => ?_)
    refine lv_if_eq (tgt := 37) hx hb dX10_trough_5 (by decide) (fun c2 => ?_) (fun c2 => ?_)
    · skip
      have ir3 : IV x1 0 0 := iv_eL c2 (iv_c (by decide) : IV 0 0 0)
      exact J37 H locs ls  hH hS (lv_sub hl [] rfl)
    · skip
      have ir4 : IV x1 1 1 := iv_cutL ix1 (iv_c (by decide) : IV 0 0 0) c2 (by decide)
      have ir5 : IV y1 0 3 := ox1 c2
      refine lv_aload_n hx hb dX10_trough_8 rfl (lv_at hl 0 rfl) ?_
      refine lv_iload_n hx hb dX10_trough_9 rfl (lv_at hl 2 rfl) ?_
      refine th_callVg (n := 1) (As := [.int y2]) S hK hH hS (th_A.sub (by decide)) (m_X10_isFood l D cT T q hq a0 t0 (y2) j2) gm_824 gm_821 gm_823 gm_23 gm_113 (by decide +kernel) ⟨rfl, rfl, Nat.le_of_ble_eq_true rfl, Nat.le_of_ble_eq_true rfl⟩ t0 kd_0 rfl rfl hl.1 rfl (Nat.le_of_ble_eq_true rfl) dX10_trough_10 ⟨Nat.zero_le _, Nat.zero_le _⟩ (fun x6 H locs ix6 ox6 hH hS hF1 => ?_)
      refine lv_if_eq (tgt := 37) hx hb dX10_trough_13 (by decide) (fun c7 => ?_) (fun c7 => ?_)
      · skip
        have ir8 : IV x6 0 0 := iv_eL c7 (iv_c (by decide) : IV 0 0 0)
        exact J37 H locs ls  hH hS (lv_sub hl [] rfl)
      · skip
        have ir9 : IV x6 1 1 := iv_cutL ix6 (iv_c (by decide) : IV 0 0 0) c7 (by decide)
        have ir10 : IV y2 0 2 := ox6 c7
        refine lv_aload_n hx hb dX10_trough_16 rfl (lv_at hl 0 rfl) ?_
        refine th_get S hK hH inG10 t0 kd_0 rfl 4 (by decide) gm_509 rfl rfl dX10_trough_17 (fun v11 hv11 fv11 => ?_)
        obtain ⟨rf12, rfl, trf12⟩ := th_V.ref hv11
        refine th_callVr (n := 0) (As := []) S hK hH hS (th_A.sub (by decide)) (m_X3_now l D cT T q hq rf12 trf12) gm_828 gm_825 gm_826 gm_827 gm_120 (by decide +kernel) ⟨rfl, rfl, Nat.le_of_ble_eq_true rfl, Nat.le_of_ble_eq_true rfl⟩ trf12 kd_5 rfl rfl hl.1 rfl (Nat.le_of_ble_eq_true rfl) dX10_trough_20 ⟨Nat.zero_le _, Nat.zero_le _⟩ (fun rf13 H locs trf13 hH hS hF1 => ?_)
        refine th_get S hK hH inG7 trf13 kd_10 rfl 0 (by decide) gm_231 rfl rfl dX10_trough_23 (fun v14 hv14 fv14 => ?_)
        obtain ⟨rf15, rfl, trf15⟩ := th_V.ref hv14
        refine lv_iconst (v := 3) hx hb dX10_trough_26 (by decide) ?_
        refine lv_iload_n hx hb dX10_trough_27 rfl (lv_at hl 1 rfl) ?_
        refine lv_iconst (v := 3) hx hb dX10_trough_28 (by decide) ?_
        refine lv_imul hx hb dX10_trough_29 ?_
        refine lv_topi (fun x16 ex16 => ?_)
        have ix16 : IV x16 0 9 := by rw [ex16]; exact iv_mul ir5 (iv_c (by decide) : IV 3 3 3) (by decide) (by decide)
        refine lv_iadd hx hb dX10_trough_30 ?_
        refine lv_topi (fun x17 ex17 => ?_)
        have ix17 : IV x17 3 12 := by rw [ex17]; exact iv_add (iv_c (by decide) : IV 3 3 3) ix16 (by decide)
        refine lv_iload_n hx hb dX10_trough_31 rfl (lv_at hl 2 rfl) ?_
        refine lv_iadd hx hb dX10_trough_32 ?_
        refine lv_topi (fun x18 ex18 => ?_)
        have ix18 : IV x18 3 14 := by rw [ex18]; exact iv_add ix17 ir10 (by decide)
        refine th_iald S hK hH trf15 kd_29 (th_in (hi := 14) (iv_w ix18 (by decide)) (by decide)) dX10_trough_33 (fun v19 hv19 => ?_)
        obtain ⟨x20, rfl, ix20⟩ := th_V.int hv19
        refine lv_goto (tgt := 38) hx hb dX10_trough_34 (by decide) ?_
        exact J38 H locs ls x20 ix20 hH hS (lv_sub hl [] rfl)
  exact J0 s.heap [] ls hH va_S.rf hl

set_option maxRecDepth 100000 in
theorem m_X10_give (l : Launch) (D : va_G) (cT : Nat → ClassId) (T : Nat → Option Nat) (q : Nat → Int) (hT : tok T) (hqr : qokr q) (a0 : Nat) (t0 : T a0 = some 0) (y1 : Int32) (j1 : IV y1 (-2147483648) 2147483647) (y2 : Int32) (j2 : IV y2 (-2147483648) 2147483647) (y3 : Int32) (j3 : IV y3 (-2147483648) 2147483647) : th_MetX l D cT T q yX10_give cX10_give 5 (some .int) (rmk 3 102) [.ref a0, .int y1, .int y2, .int y3] (th_R T (some (.inl (-2147483648, 2147483647)))) [5, 29] := by
  refine th_startX (by decide) (Nat.le_of_ble_eq_true rfl) ?_
  have hq := hqr.1
  intro p e s m below meth c ls S hK hH hr hlocks hnm hl
  have hx := S.1
  have hb := S.2.1
  have hl : lv_has ls 5 [(0, .ref a0), (1, .int y1), (2, .int y2), (3, .int y3)] := hl
  have J45 : ∀ (H : Heap) (locs : List Loc) (ls : Array Slot), th_H D cT T (kd q) H → va_S (th_A T [5, 29]) s.heap H locs → lv_has ls 5 [] → W p l e (rmk 3 102) s m [.ref a0, .int y1, .int y2, .int y3].toArray below meth c H locs 0 0 (MQ below (th_QX D cT T q (th_R T (some (.inl (-2147483648, 2147483647)))) [5, 29]) [.ref a0, .int y1, .int y2, .int y3].toArray s 0 0 (th_A T [5, 29])) (F0 m 45 ls []) := by
    intro H locs ls hH hS hl
    refine lv_iconst (v := (-1)) hx hb dX10_give_45 (by decide) ?_
    exact th_iretX S hK hH hS hr hlocks hqr rfl (th_R.i (iv_top _)) dX10_give_46
  have J0 : ∀ (H : Heap) (locs : List Loc) (ls : Array Slot), th_H D cT T (kd q) H → va_S (th_A T [5, 29]) s.heap H locs → lv_has ls 5 [(0, .ref a0), (1, .int y1), (2, .int y2), (3, .int y3)] → W p l e (rmk 3 102) s m [.ref a0, .int y1, .int y2, .int y3].toArray below meth c H locs 0 0 (MQ below (th_QX D cT T q (th_R T (some (.inl (-2147483648, 2147483647)))) [5, 29]) [.ref a0, .int y1, .int y2, .int y3].toArray s 0 0 (th_A T [5, 29])) (F0 m 0 ls []) := by
    intro H locs ls hH hS hl
    refine lv_aload_n hx hb dX10_give_0 rfl (lv_at hl 0 rfl) ?_
    refine lv_iload_n hx hb dX10_give_1 rfl (lv_at hl 1 rfl) ?_
    refine th_callVg (n := 1) (As := [.int y1]) S hK hH hS (th_A.sub (by decide)) (m_X10_isMap l D cT T q hq a0 t0 (y1) j1) gm_836 gm_833 gm_835 gm_24 gm_113 (by decide +kernel) ⟨rfl, rfl, Nat.le_of_ble_eq_true rfl, Nat.le_of_ble_eq_true rfl⟩ t0 kd_0 rfl rfl hl.1 rfl (Nat.le_of_ble_eq_true rfl) dX10_give_2 ⟨Nat.zero_le _, Nat.zero_le _⟩ (fun x1 H locs ix1 ox1 hH hS hF1 => ?_)
    refine lv_if_eq (tgt := 45) hx hb dX10_give_5 (by decide) (fun c2 => ?_) (fun c2 => ?_)
    · skip
      have ir3 : IV x1 0 0 := iv_eL c2 (iv_c (by decide) : IV 0 0 0)
      have ir3a := ir3.1
      have ir3b := ir3.2
      exact J45 H locs ls  hH hS (lv_sub hl [] rfl)
    · skip
      have ir4 : IV x1 1 1 := iv_cutL ix1 (iv_c (by decide) : IV 0 0 0) c2 (by decide)
      have ir4a := ir4.1
      have ir4b := ir4.2
      have ir5 : IV y1 0 3 := ox1 c2
      have ir5a := ir5.1
      have ir5b := ir5.2
      refine lv_aload_n hx hb dX10_give_8 rfl (lv_at hl 0 rfl) ?_
      refine lv_iload_n hx hb dX10_give_9 rfl (lv_at hl 2 rfl) ?_
      refine th_callVg (n := 1) (As := [.int y2]) S hK hH hS (th_A.sub (by decide)) (m_X10_isFood l D cT T q hq a0 t0 (y2) j2) gm_824 gm_821 gm_823 gm_23 gm_113 (by decide +kernel) ⟨rfl, rfl, Nat.le_of_ble_eq_true rfl, Nat.le_of_ble_eq_true rfl⟩ t0 kd_0 rfl rfl hl.1 rfl (Nat.le_of_ble_eq_true rfl) dX10_give_10 ⟨Nat.zero_le _, Nat.zero_le _⟩ (fun x6 H locs ix6 ox6 hH hS hF1 => ?_)
      refine lv_if_eq (tgt := 45) hx hb dX10_give_13 (by decide) (fun c7 => ?_) (fun c7 => ?_)
      · skip
        have ir8 : IV x6 0 0 := iv_eL c7 (iv_c (by decide) : IV 0 0 0)
        have ir8a := ir8.1
        have ir8b := ir8.2
        exact J45 H locs ls  hH hS (lv_sub hl [] rfl)
      · skip
        have ir9 : IV x6 1 1 := iv_cutL ix6 (iv_c (by decide) : IV 0 0 0) c7 (by decide)
        have ir9a := ir9.1
        have ir9b := ir9.2
        have ir10 : IV y2 0 2 := ox6 c7
        have ir10a := ir10.1
        have ir10b := ir10.2
        refine lv_iload_n hx hb dX10_give_16 rfl (lv_at hl 3 rfl) ?_
        refine lv_iconst (v := 1) hx hb dX10_give_17 (by decide) ?_
        refine lv_icmp_lt (tgt := 45) hx hb dX10_give_18 (by decide) (fun c11 => ?_) (fun c11 => ?_)
        · skip
          have ir12 : IV y3 (-2147483648) 0 := iv_uL j3 (iv_c (by decide) : IV 1 1 1) (iv_lt c11) (by decide)
          have ir12a := ir12.1
          have ir12b := ir12.2
          exact J45 H locs ls  hH hS (lv_sub hl [] rfl)
        · skip
          have ir13 : IV y3 1 2147483647 := iv_vR (iv_c (by decide) : IV 1 1 1) j3 (iv_nlt c11) (by decide)
          have ir13a := ir13.1
          have ir13b := ir13.2
          refine lv_iload_n hx hb dX10_give_21 rfl (lv_at hl 3 rfl) ?_
          refine lv_bipush (v := 99) hx hb dX10_give_22 (by decide) ?_
          refine lv_icmp_gt (tgt := 45) hx hb dX10_give_24 (by decide) (fun c14 => ?_) (fun c14 => ?_)
          · skip
            have ir15 : IV y3 100 2147483647 := iv_uR (iv_c (by decide) : IV 99 99 99) ir13 (iv_lt c14) (by decide)
            have ir15a := ir15.1
            have ir15b := ir15.2
            exact J45 H locs ls  hH hS (lv_sub hl [] rfl)
          · skip
            have ir16 : IV y3 1 99 := iv_vL ir13 (iv_c (by decide) : IV 99 99 99) (iv_nlt c14) (by decide)
            have ir16a := ir16.1
            have ir16b := ir16.2
            refine lv_iload_n hx hb dX10_give_27 rfl (lv_at hl 3 rfl) ?_
            refine lv_aload_n hx hb dX10_give_28 rfl (lv_at hl 0 rfl) ?_
            refine th_get S hK hH inG10 t0 kd_0 rfl 4 (by decide) gm_509 rfl rfl dX10_give_29 (fun v17 hv17 fv17 => ?_)
            obtain ⟨rf18, rfl, trf18⟩ := th_V.ref hv17
            refine th_callVr (n := 0) (As := []) S hK hH hS (th_A.sub (by decide)) (m_X3_now l D cT T q hq rf18 trf18) gm_828 gm_825 gm_826 gm_827 gm_120 (by decide +kernel) ⟨rfl, rfl, Nat.le_of_ble_eq_true rfl, Nat.le_of_ble_eq_true rfl⟩ trf18 kd_5 rfl rfl hl.1 rfl (Nat.le_of_ble_eq_true rfl) dX10_give_32 ⟨Nat.zero_le _, Nat.zero_le _⟩ (fun rf19 H locs trf19 hH hS hF1 => ?_)
            have f20 := fv17.kept (hF1 _ fv17.lt (th_off t0 (by decide)))
            refine th_get S hK hH inG7 trf19 kd_10 rfl 0 (by decide) gm_231 rfl rfl dX10_give_35 (fun v21 hv21 fv21 => ?_)
            obtain ⟨rf22, rfl, trf22⟩ := th_V.ref hv21
            refine lv_iconst (v := 0) hx hb dX10_give_38 (by decide) ?_
            refine lv_iload_n hx hb dX10_give_39 rfl (lv_at hl 2 rfl) ?_
            refine lv_iadd hx hb dX10_give_40 ?_
            refine lv_topi (fun x23 ex23 => ?_)
            have ix23 : IV x23 0 2 := by rw [ex23]; exact iv_add (iv_c (by decide) : IV 0 0 0) ir10 (by decide)
            refine th_iald S hK hH trf22 kd_29 (th_in (hi := 2) ix23 (by decide)) dX10_give_41 (fun v24 hv24 => ?_)
            obtain ⟨x25, rfl, ix25⟩ := th_V.int hv24
            refine lv_icmp_le (tgt := 47) hx hb dX10_give_42 (by decide) (fun c26 => ?_) (fun c26 => ?_)
            · skip
              have ir27 : IV x25 1 2147483647 := iv_vR ir16 ix25 (iv_le c26) (by decide)
              have ir27a := ir27.1
              have ir27b := ir27.2
              refine lv_aload_n hx hb dX10_give_47 rfl (lv_at hl 0 rfl) ?_
              refine th_getK S hK f20 inG10 rfl (by decide) gm_509 rfl dX10_give_48 ?_
              refine th_callVX (n := 0) (As := []) S hK hH hS (th_A.sub (by decide)) (m_X3_advance l D cT T q hT hqr rf18 trf18) gm_891 gm_888 gm_889 gm_890 gm_120 (by decide +kernel) ⟨rfl, rfl, Nat.le_of_ble_eq_true rfl, Nat.le_of_ble_eq_true rfl⟩ trf18 kd_5 rfl rfl hl.1 rfl (Nat.le_of_ble_eq_true rfl) dX10_give_51 ⟨Nat.zero_le _, Nat.zero_le _⟩ (fun wq30 q30 H locs hvq30 hrq30 h0q30 hH hS hF1 => ?_)
              obtain ⟨_, rfl, rf29, rfl, trf29⟩ := hvq30
              have hqq30 := hrq30.1
              show W p l e (rmk 3 102) s m [.ref a0, .int y1, .int y2, .int y3].toArray below meth c H locs 0 0 (MQ below (th_QX D cT T q (th_R T (some (.inl (-2147483648, 2147483647)))) [5, 29]) [.ref a0, .int y1, .int y2, .int y3].toArray s 0 0 (th_A T [5, 29])) (F0 m 54 ls [.ref rf29])
              have f31 := f20.kept (hF1 _ f20.lt (th_off t0 (by decide)))
              have f32 := fv21.kept (hF1 _ fv21.lt (th_off trf19 (by decide)))
              refine lv_astore (lv' := [(4, .ref rf29), (0, .ref a0), (1, .int y1), (2, .int y2), (3, .int y3)]) hx hb dX10_give_54 hl (by decide) rfl (fun ls hl => ?_)
              refine lv_aload hx hb dX10_give_56 (lv_at hl 0 rfl) ?_
              refine th_get S hK hH inG7 trf29 kd_10 rfl 0 (by decide) gm_231 rfl rfl dX10_give_58 (fun v33 hv33 fv33 => ?_)
              obtain ⟨rf34, rfl, trf34⟩ := th_V.ref hv33
              refine lv_iconst (v := 0) hx hb dX10_give_61 (by decide) ?_
              refine lv_iload_n hx hb dX10_give_62 rfl (lv_at hl 3 rfl) ?_
              refine lv_iadd hx hb dX10_give_63 ?_
              refine lv_topi (fun x35 ex35 => ?_)
              have zx35 : x23 = x35 := ex23.trans ex35.symm
              subst zx35
              refine lv_dup2_11 hx hb dX10_give_64 rfl rfl ?_
              refine th_iald S hK hH trf34 kd_29 (th_in (hi := 2) ix23 (by decide)) dX10_give_65 (fun v36 hv36 => ?_)
              obtain ⟨x37, rfl, ix37⟩ := th_V.int hv36
              refine lv_iload_n hx hb dX10_give_66 rfl (lv_at hl 4 rfl) ?_
              refine lv_isub hx hb dX10_give_67 ?_
              refine lv_topi (fun x38 ex38 => ?_)
              have ix38 := iv_top x38
              refine th_iast S hK hH hS ⟨29, by decide, trf34⟩ trf34 kd_29 (th_in (hi := 2) ix23 (by decide)) (th_iv ix38) dX10_give_68 (fun H locs hH hS hq1 => ?_)
              have f39 := f31.kept (hq1 _ (th_ne t0 trf34 (by decide)))
              have f40 := f32.kept (hq1 _ (th_ne trf19 trf34 (by decide)))
              have f41 := fv33.kept (hq1 _ (th_ne trf29 trf34 (by decide)))
              refine lv_aload hx hb dX10_give_69 (lv_at hl 0 rfl) ?_
              refine th_getK S hK f41 inG7 rfl (by decide) gm_231 rfl dX10_give_71 ?_
              refine lv_iconst (v := 3) hx hb dX10_give_74 (by decide) ?_
              refine lv_iload_n hx hb dX10_give_75 rfl (lv_at hl 2 rfl) ?_
              refine lv_iconst (v := 3) hx hb dX10_give_76 (by decide) ?_
              refine lv_imul hx hb dX10_give_77 ?_
              refine lv_topi (fun x43 ex43 => ?_)
              have ix43 : IV x43 0 9 := by rw [ex43]; exact iv_mul ir5 (iv_c (by decide) : IV 3 3 3) (by decide) (by decide)
              refine lv_iadd hx hb dX10_give_78 ?_
              refine lv_topi (fun x44 ex44 => ?_)
              have ix44 : IV x44 3 12 := by rw [ex44]; exact iv_add (iv_c (by decide) : IV 3 3 3) ix43 (by decide)
              refine lv_iload_n hx hb dX10_give_79 rfl (lv_at hl 3 rfl) ?_
              refine lv_iadd hx hb dX10_give_80 ?_
              refine lv_topi (fun x45 ex45 => ?_)
              have ix45 : IV x45 3 14 := by rw [ex45]; exact iv_add ix44 ir10 (by decide)
              refine lv_dup2_11 hx hb dX10_give_81 rfl rfl ?_
              refine th_iald S hK hH trf34 kd_29 (th_in (hi := 14) (iv_w ix45 (by decide)) (by decide)) dX10_give_82 (fun v46 hv46 => ?_)
              obtain ⟨x47, rfl, ix47⟩ := th_V.int hv46
              refine lv_iload_n hx hb dX10_give_83 rfl (lv_at hl 4 rfl) ?_
              refine lv_iadd hx hb dX10_give_84 ?_
              refine lv_topi (fun x48 ex48 => ?_)
              have ix48 := iv_top x48
              refine th_iast S hK hH hS ⟨29, by decide, trf34⟩ trf34 kd_29 (th_in (hi := 14) (iv_w ix45 (by decide)) (by decide)) (th_iv ix48) dX10_give_85 (fun H locs hH hS hq1 => ?_)
              have f49 := f39.kept (hq1 _ (th_ne t0 trf34 (by decide)))
              have f50 := f40.kept (hq1 _ (th_ne trf19 trf34 (by decide)))
              have f51 := f41.kept (hq1 _ (th_ne trf29 trf34 (by decide)))
              refine lv_aload hx hb dX10_give_86 (lv_at hl 0 rfl) ?_
              refine th_getK S hK f51 inG7 rfl (by decide) gm_231 rfl dX10_give_88 ?_
              refine lv_iconst (v := 0) hx hb dX10_give_91 (by decide) ?_
              refine lv_iload_n hx hb dX10_give_92 rfl (lv_at hl 3 rfl) ?_
              refine lv_iadd hx hb dX10_give_93 ?_
              refine lv_topi (fun x53 ex53 => ?_)
              have zx53 : x23 = x53 := ex23.trans ex53.symm
              subst zx53
              refine th_iald S hK hH trf34 kd_29 (th_in (hi := 2) ix23 (by decide)) dX10_give_94 (fun v54 hv54 => ?_)
              obtain ⟨x55, rfl, ix55⟩ := th_V.int hv54
              exact th_iretX S hK hH hS hr hlocks hrq30 h0q30 (th_R.i ix55) dX10_give_95
            · skip
              have ir56 : IV x25 (-2147483648) 98 := iv_uL ix25 ir16 (iv_nle c26) (by decide)
              have ir56a := ir56.1
              have ir56b := ir56.2
              exact J45 H locs ls  hH hS (lv_sub hl [] rfl)
  exact J0 s.heap [] ls hH va_S.rf hl

set_option maxRecDepth 100000 in
theorem m_X10_fold (l : Launch) (D : va_G) (cT : Nat → ClassId) (T : Nat → Option Nat) (q : Nat → Int) (hT : tok T) (hqr : qokr q) (a0 : Nat) (t0 : T a0 = some 0) (y1 : Int32) (j1 : IV y1 (-2147483648) 2147483647) : th_MetX l D cT T q yX10_fold cX10_fold 3 (some .int) (rmk 3 102) [.ref a0, .int y1] (th_R T (some (.inl (-1, 1)))) [5, 29] := by
  refine th_startX (by decide) (Nat.le_of_ble_eq_true rfl) ?_
  have hq := hqr.1
  intro p e s m below meth c ls S hK hH hr hlocks hnm hl
  have hx := S.1
  have hb := S.2.1
  have hl : lv_has ls 3 [(0, .ref a0), (1, .int y1)] := hl
  have J0 : ∀ (H : Heap) (locs : List Loc) (ls : Array Slot), th_H D cT T (kd q) H → va_S (th_A T [5, 29]) s.heap H locs → lv_has ls 3 [(0, .ref a0), (1, .int y1)] → W p l e (rmk 3 102) s m [.ref a0, .int y1].toArray below meth c H locs 0 0 (MQ below (th_QX D cT T q (th_R T (some (.inl (-1, 1)))) [5, 29]) [.ref a0, .int y1].toArray s 0 0 (th_A T [5, 29])) (F0 m 0 ls []) := by
    intro H locs ls hH hS hl
    refine lv_aload_n hx hb dX10_fold_0 rfl (lv_at hl 0 rfl) ?_
    refine lv_iload_n hx hb dX10_fold_1 rfl (lv_at hl 1 rfl) ?_
    refine th_callVg (n := 1) (As := [.int y1]) S hK hH hS (th_A.sub (by decide)) (m_X10_isMap l D cT T q hq a0 t0 (y1) j1) gm_836 gm_833 gm_835 gm_24 gm_113 (by decide +kernel) ⟨rfl, rfl, Nat.le_of_ble_eq_true rfl, Nat.le_of_ble_eq_true rfl⟩ t0 kd_0 rfl rfl hl.1 rfl (Nat.le_of_ble_eq_true rfl) dX10_fold_2 ⟨Nat.zero_le _, Nat.zero_le _⟩ (fun x1 H locs ix1 ox1 hH hS hF1 => ?_)
    refine lv_if_ne (tgt := 10) hx hb dX10_fold_5 (by decide) (fun c2 => ?_) (fun c2 => ?_)
    · skip
      have ir3 : IV x1 1 1 := iv_cutL ix1 (iv_c (by decide) : IV 0 0 0) c2 (by decide)
      have ir3a := ir3.1
      have ir3b := ir3.2
      have ir4 : IV y1 0 3 := ox1 c2
      have ir4a := ir4.1
      have ir4b := ir4.2
      refine lv_aload_n hx hb dX10_fold_10 rfl (lv_at hl 0 rfl) ?_
      refine th_get S hK hH inG10 t0 kd_0 rfl 4 (by decide) gm_509 rfl rfl dX10_fold_11 (fun v5 hv5 fv5 => ?_)
      obtain ⟨rf6, rfl, trf6⟩ := th_V.ref hv5
      refine th_callVX (n := 0) (As := []) S hK hH hS (th_A.sub (by decide)) (m_X3_advance l D cT T q hT hqr rf6 trf6) gm_891 gm_888 gm_889 gm_890 gm_120 (by decide +kernel) ⟨rfl, rfl, Nat.le_of_ble_eq_true rfl, Nat.le_of_ble_eq_true rfl⟩ trf6 kd_5 rfl rfl hl.1 rfl (Nat.le_of_ble_eq_true rfl) dX10_fold_14 ⟨Nat.zero_le _, Nat.zero_le _⟩ (fun wq8 q8 H locs hvq8 hrq8 h0q8 hH hS hF1 => ?_)
      obtain ⟨_, rfl, rf7, rfl, trf7⟩ := hvq8
      have hqq8 := hrq8.1
      show W p l e (rmk 3 102) s m [.ref a0, .int y1].toArray below meth c H locs 0 0 (MQ below (th_QX D cT T q (th_R T (some (.inl (-1, 1)))) [5, 29]) [.ref a0, .int y1].toArray s 0 0 (th_A T [5, 29])) (F0 m 17 ls [.ref rf7])
      refine lv_astore_n (lv' := [(2, .ref rf7), (0, .ref a0), (1, .int y1)]) hx hb dX10_fold_17 rfl hl (by decide) rfl (fun ls hl => ?_)
      refine lv_aload_n hx hb dX10_fold_18 rfl (lv_at hl 0 rfl) ?_
      refine th_get S hK hH inG7 trf7 kd_10 rfl 0 (by decide) gm_231 rfl rfl dX10_fold_19 (fun v9 hv9 fv9 => ?_)
      obtain ⟨rf10, rfl, trf10⟩ := th_V.ref hv9
      refine lv_bipush (v := 39) hx hb dX10_fold_22 (by decide) ?_
      refine lv_dup2_11 hx hb dX10_fold_24 rfl rfl ?_
      refine th_iald S hK hH trf10 kd_29 (th_in (hi := 39) (iv_w (iv_c (by decide) : IV 39 39 39) (by decide)) (by decide)) dX10_fold_25 (fun v11 hv11 => ?_)
      obtain ⟨x12, rfl, ix12⟩ := th_V.int hv11
      refine lv_iconst (v := 1) hx hb dX10_fold_26 (by decide) ?_
      refine lv_iload_n hx hb dX10_fold_27 rfl (lv_at hl 2 rfl) ?_
      refine lv_ishl hx hb dX10_fold_28 ?_
      refine lv_topi (fun x13 ex13 => ?_)
      have ix13 := iv_top x13
      refine lv_ixor hx hb dX10_fold_29 ?_
      refine lv_topi (fun x14 ex14 => ?_)
      have ix14 := iv_top x14
      refine th_iast S hK hH hS ⟨29, by decide, trf10⟩ trf10 kd_29 (th_in (hi := 39) (iv_w (iv_c (by decide) : IV 39 39 39) (by decide)) (by decide)) (th_iv ix14) dX10_fold_30 (fun H locs hH hS hq1 => ?_)
      have f15 := fv9.kept (hq1 _ (th_ne trf7 trf10 (by decide)))
      refine lv_aload_n hx hb dX10_fold_31 rfl (lv_at hl 0 rfl) ?_
      refine th_getK S hK f15 inG7 rfl (by decide) gm_231 rfl dX10_fold_32 ?_
      refine lv_bipush (v := 39) hx hb dX10_fold_35 (by decide) ?_
      refine th_iald S hK hH trf10 kd_29 (th_in (hi := 39) (iv_w (iv_c (by decide) : IV 39 39 39) (by decide)) (by decide)) dX10_fold_37 (fun v17 hv17 => ?_)
      obtain ⟨x18, rfl, ix18⟩ := th_V.int hv17
      refine lv_iload_n hx hb dX10_fold_38 rfl (lv_at hl 2 rfl) ?_
      refine lv_ishr hx hb dX10_fold_39 ?_
      refine lv_topi (fun x19 ex19 => ?_)
      have ix19 := iv_top x19
      refine lv_iconst (v := 1) hx hb dX10_fold_40 (by decide) ?_
      refine lv_iand hx hb dX10_fold_41 ?_
      refine lv_topi (fun x20 ex20 => ?_)
      have ix20 : IV x20 0 1 := by rw [ex20]; exact iv_and (h2 := 1) (iv_w (iv_c (by decide) : IV 1 1 1) (by decide)) (by decide)
      exact th_iretX S hK hH hS hr hlocks hrq8 h0q8 (th_R.i (iv_w ix20 (by decide))) dX10_fold_42
    · skip
      have ir21 : IV x1 0 0 := iv_eL c2 (iv_c (by decide) : IV 0 0 0)
      have ir21a := ir21.1
      have ir21b := ir21.2
      refine lv_iconst (v := (-1)) hx hb dX10_fold_8 (by decide) ?_
      exact th_iretX S hK hH hS hr hlocks hqr rfl (th_R.i (iv_w (iv_c (by decide) : IV (-1) (-1) (-1)) (by decide))) dX10_fold_9
  exact J0 s.heap [] ls hH va_S.rf hl

set_option maxRecDepth 100000 in
theorem m_X10_put (l : Launch) (D : va_G) (cT : Nat → ClassId) (T : Nat → Option Nat) (q : Nat → Int) (hT : tok T) (hqr : qokr q) (a0 : Nat) (t0 : T a0 = some 0) (y1 : Int32) (j1 : IV y1 (-2147483648) 2147483647) (y2 : Int32) (j2 : IV y2 (-2147483648) 2147483647) : th_MetX l D cT T q yX10_put cX10_put 5 (some .int) (rmk 3 102) [.ref a0, .int y1, .int y2] (th_R T (some (.inl (-2147483648, 2147483647)))) [5, 29] := by
  refine th_startX (by decide) (Nat.le_of_ble_eq_true rfl) ?_
  have hq := hqr.1
  intro p e s m below meth c ls S hK hH hr hlocks hnm hl
  have hx := S.1
  have hb := S.2.1
  have hl : lv_has ls 5 [(0, .ref a0), (1, .int y1), (2, .int y2)] := hl
  have J17 : ∀ (H : Heap) (locs : List Loc) (ls : Array Slot), th_H D cT T (kd q) H → va_S (th_A T [5, 29]) s.heap H locs → lv_has ls 5 [] → W p l e (rmk 3 102) s m [.ref a0, .int y1, .int y2].toArray below meth c H locs 0 0 (MQ below (th_QX D cT T q (th_R T (some (.inl (-2147483648, 2147483647)))) [5, 29]) [.ref a0, .int y1, .int y2].toArray s 0 0 (th_A T [5, 29])) (F0 m 17 ls []) := by
    intro H locs ls hH hS hl
    refine lv_iconst (v := (-1)) hx hb dX10_put_17 (by decide) ?_
    exact th_iretX S hK hH hS hr hlocks hqr rfl (th_R.i (iv_top _)) dX10_put_18
  have J0 : ∀ (H : Heap) (locs : List Loc) (ls : Array Slot), th_H D cT T (kd q) H → va_S (th_A T [5, 29]) s.heap H locs → lv_has ls 5 [(0, .ref a0), (1, .int y1), (2, .int y2)] → W p l e (rmk 3 102) s m [.ref a0, .int y1, .int y2].toArray below meth c H locs 0 0 (MQ below (th_QX D cT T q (th_R T (some (.inl (-2147483648, 2147483647)))) [5, 29]) [.ref a0, .int y1, .int y2].toArray s 0 0 (th_A T [5, 29])) (F0 m 0 ls []) := by
    intro H locs ls hH hS hl
    refine lv_aload_n hx hb dX10_put_0 rfl (lv_at hl 0 rfl) ?_
    refine lv_iload_n hx hb dX10_put_1 rfl (lv_at hl 1 rfl) ?_
    refine th_callVg (n := 1) (As := [.int y1]) S hK hH hS (th_A.sub (by decide)) (m_X10_isMap l D cT T q hq a0 t0 (y1) j1) gm_836 gm_833 gm_835 gm_24 gm_113 (by decide +kernel) ⟨rfl, rfl, Nat.le_of_ble_eq_true rfl, Nat.le_of_ble_eq_true rfl⟩ t0 kd_0 rfl rfl hl.1 rfl (Nat.le_of_ble_eq_true rfl) dX10_put_2 ⟨Nat.zero_le _, Nat.zero_le _⟩ (fun x1 H locs ix1 ox1 hH hS hF1 => ?_)
    refine lv_if_eq (tgt := 17) hx hb dX10_put_5 (by decide) (fun c2 => ?_) (fun c2 => ?_)
    · skip
      have ir3 : IV x1 0 0 := iv_eL c2 (iv_c (by decide) : IV 0 0 0)
      have ir3a := ir3.1
      have ir3b := ir3.2
      exact J17 H locs ls  hH hS (lv_sub hl [] rfl)
    · skip
      have ir4 : IV x1 1 1 := iv_cutL ix1 (iv_c (by decide) : IV 0 0 0) c2 (by decide)
      have ir4a := ir4.1
      have ir4b := ir4.2
      have ir5 : IV y1 0 3 := ox1 c2
      have ir5a := ir5.1
      have ir5b := ir5.2
      refine lv_iload_n hx hb dX10_put_8 rfl (lv_at hl 2 rfl) ?_
      refine lv_if_lt (tgt := 17) hx hb dX10_put_9 (by decide) (fun c6 => ?_) (fun c6 => ?_)
      · skip
        have ir7 : IV y2 (-2147483648) (-1) := iv_uL j2 (iv_c (by decide) : IV 0 0 0) (iv_lt c6) (by decide)
        have ir7a := ir7.1
        have ir7b := ir7.2
        exact J17 H locs ls  hH hS (lv_sub hl [] rfl)
      · skip
        have ir8 : IV y2 0 2147483647 := iv_vR (iv_c (by decide) : IV 0 0 0) j2 (iv_nlt c6) (by decide)
        have ir8a := ir8.1
        have ir8b := ir8.2
        refine lv_iload_n hx hb dX10_put_12 rfl (lv_at hl 2 rfl) ?_
        refine lv_iconst (v := 4) hx hb dX10_put_13 (by decide) ?_
        refine lv_icmp_lt (tgt := 19) hx hb dX10_put_14 (by decide) (fun c9 => ?_) (fun c9 => ?_)
        · skip
          have ir10 : IV y2 0 3 := iv_uL ir8 (iv_c (by decide) : IV 4 4 4) (iv_lt c9) (by decide)
          have ir10a := ir10.1
          have ir10b := ir10.2
          refine lv_aload_n hx hb dX10_put_19 rfl (lv_at hl 0 rfl) ?_
          refine th_get S hK hH inG10 t0 kd_0 rfl 4 (by decide) gm_509 rfl rfl dX10_put_20 (fun v11 hv11 fv11 => ?_)
          obtain ⟨rf12, rfl, trf12⟩ := th_V.ref hv11
          refine th_callVX (n := 0) (As := []) S hK hH hS (th_A.sub (by decide)) (m_X3_advance l D cT T q hT hqr rf12 trf12) gm_891 gm_888 gm_889 gm_890 gm_120 (by decide +kernel) ⟨rfl, rfl, Nat.le_of_ble_eq_true rfl, Nat.le_of_ble_eq_true rfl⟩ trf12 kd_5 rfl rfl hl.1 rfl (Nat.le_of_ble_eq_true rfl) dX10_put_23 ⟨Nat.zero_le _, Nat.zero_le _⟩ (fun wq14 q14 H locs hvq14 hrq14 h0q14 hH hS hF1 => ?_)
          obtain ⟨_, rfl, rf13, rfl, trf13⟩ := hvq14
          have hqq14 := hrq14.1
          show W p l e (rmk 3 102) s m [.ref a0, .int y1, .int y2].toArray below meth c H locs 0 0 (MQ below (th_QX D cT T q (th_R T (some (.inl (-2147483648, 2147483647)))) [5, 29]) [.ref a0, .int y1, .int y2].toArray s 0 0 (th_A T [5, 29])) (F0 m 26 ls [.ref rf13])
          refine lv_astore_n (lv' := [(3, .ref rf13), (0, .ref a0), (1, .int y1), (2, .int y2)]) hx hb dX10_put_26 rfl hl (by decide) rfl (fun ls hl => ?_)
          refine lv_aload_n hx hb dX10_put_27 rfl (lv_at hl 0 rfl) ?_
          refine th_get S hK hH inG7 trf13 kd_10 rfl 0 (by decide) gm_231 rfl rfl dX10_put_28 (fun v15 hv15 fv15 => ?_)
          obtain ⟨rf16, rfl, trf16⟩ := th_V.ref hv15
          refine lv_bipush (v := 35) hx hb dX10_put_31 (by decide) ?_
          refine lv_iload_n hx hb dX10_put_33 rfl (lv_at hl 2 rfl) ?_
          refine lv_iadd hx hb dX10_put_34 ?_
          refine lv_topi (fun x17 ex17 => ?_)
          have ix17 : IV x17 35 38 := by rw [ex17]; exact iv_add (iv_c (by decide) : IV 35 35 35) ir5 (by decide)
          refine th_iald S hK hH trf16 kd_29 (th_in (hi := 38) (iv_w ix17 (by decide)) (by decide)) dX10_put_35 (fun v18 hv18 => ?_)
          obtain ⟨x19, rfl, ix19⟩ := th_V.int hv18
          refine lv_istore (lv' := [(4, .int x19), (3, .ref rf13), (0, .ref a0), (1, .int y1), (2, .int y2)]) hx hb dX10_put_36 hl (by decide) rfl (fun ls hl => ?_)
          refine lv_aload_n hx hb dX10_put_38 rfl (lv_at hl 1 rfl) ?_
          refine th_getK S hK fv15 inG7 rfl (by decide) gm_231 rfl dX10_put_39 ?_
          refine lv_bipush (v := 35) hx hb dX10_put_42 (by decide) ?_
          refine lv_iload_n hx hb dX10_put_44 rfl (lv_at hl 3 rfl) ?_
          refine lv_iadd hx hb dX10_put_45 ?_
          refine lv_topi (fun x21 ex21 => ?_)
          have zx21 : x17 = x21 := ex17.trans ex21.symm
          subst zx21
          refine lv_iload_n hx hb dX10_put_46 rfl (lv_at hl 4 rfl) ?_
          refine th_iast S hK hH hS ⟨29, by decide, trf16⟩ trf16 kd_29 (th_in (hi := 38) (iv_w ix17 (by decide)) (by decide)) (th_iv (iv_top _)) dX10_put_47 (fun H locs hH hS hq1 => ?_)
          have f22 := fv15.kept (hq1 _ (th_ne trf13 trf16 (by decide)))
          refine lv_iload hx hb dX10_put_48 (lv_at hl 0 rfl) ?_
          exact th_iretX S hK hH hS hr hlocks hrq14 h0q14 (th_R.i ix19) dX10_put_50
        · skip
          have ir23 : IV y2 4 2147483647 := iv_vR (iv_c (by decide) : IV 4 4 4) ir8 (iv_nlt c9) (by decide)
          have ir23a := ir23.1
          have ir23b := ir23.2
          exact J17 H locs ls  hH hS (lv_sub hl [] rfl)
  exact J0 s.heap [] ls hH va_S.rf hl

set_option maxRecDepth 100000 in
theorem m_X10_year (l : Launch) (D : va_G) (cT : Nat → ClassId) (T : Nat → Option Nat) (q : Nat → Int) (hT : tok T) (hqr : qokr q) (a0 : Nat) (t0 : T a0 = some 0) : th_MetX l D cT T q yX10_year cX10_year 3 (some .int) (rmk 5 126) [.ref a0] (th_R T (some (.inl (-1, 63)))) [5, 18, 19, 29] := by
  refine th_startX (by decide) (Nat.le_of_ble_eq_true rfl) ?_
  have hq := hqr.1
  intro p e s m below meth c ls S hK hH hr hlocks hnm hl
  have hx := S.1
  have hb := S.2.1
  have hl : lv_has ls 3 [(0, .ref a0)] := hl
  have J0 : ∀ (H : Heap) (locs : List Loc) (ls : Array Slot), th_H D cT T (kd q) H → va_S (th_A T [5, 18, 19, 29]) s.heap H locs → lv_has ls 3 [(0, .ref a0)] → W p l e (rmk 5 126) s m [.ref a0].toArray below meth c H locs 0 0 (MQ below (th_QX D cT T q (th_R T (some (.inl (-1, 63)))) [5, 18, 19, 29]) [.ref a0].toArray s 0 0 (th_A T [5, 18, 19, 29])) (F0 m 0 ls []) := by
    intro H locs ls hH hS hl
    refine lv_aload_n hx hb dX10_year_0 rfl (lv_at hl 0 rfl) ?_
    refine th_get S hK hH inG10 t0 kd_0 rfl 4 (by decide) gm_509 rfl rfl dX10_year_1 (fun v1 hv1 fv1 => ?_)
    obtain ⟨rf2, rfl, trf2⟩ := th_V.ref hv1
    refine th_callVr (n := 0) (As := []) S hK hH hS (th_A.sub (by decide)) (m_X3_now l D cT T q hq rf2 trf2) gm_828 gm_825 gm_826 gm_827 gm_120 (by decide +kernel) ⟨rfl, rfl, Nat.le_of_ble_eq_true rfl, Nat.le_of_ble_eq_true rfl⟩ trf2 kd_5 rfl rfl hl.1 rfl (Nat.le_of_ble_eq_true rfl) dX10_year_4 ⟨Nat.zero_le _, Nat.zero_le _⟩ (fun rf3 H locs trf3 hH hS hF1 => ?_)
    have f4 := fv1.kept (hF1 _ fv1.lt (th_off t0 (by decide)))
    refine lv_astore_n (lv' := [(1, .ref rf3), (0, .ref a0)]) hx hb dX10_year_7 rfl hl (by decide) rfl (fun ls hl => ?_)
    refine lv_aload_n hx hb dX10_year_8 rfl (lv_at hl 0 rfl) ?_
    refine th_get S hK hH inG7 trf3 kd_10 rfl 0 (by decide) gm_231 rfl rfl dX10_year_9 (fun v5 hv5 fv5 => ?_)
    obtain ⟨rf6, rfl, trf6⟩ := th_V.ref hv5
    refine lv_bipush (v := 40) hx hb dX10_year_12 (by decide) ?_
    refine th_iald S hK hH trf6 kd_29 (th_in (hi := 40) (iv_w (iv_c (by decide) : IV 40 40 40) (by decide)) (by decide)) dX10_year_14 (fun v7 hv7 => ?_)
    obtain ⟨x8, rfl, ix8⟩ := th_V.int hv7
    refine lv_sipush (v := 999) hx hb dX10_year_15 (by decide) ?_
    refine lv_icmp_lt (tgt := 23) hx hb dX10_year_18 (by decide) (fun c9 => ?_) (fun c9 => ?_)
    · skip
      have ir10 : IV x8 (-2147483648) 998 := iv_uL ix8 (iv_c (by decide) : IV 999 999 999) (iv_lt c9) (by decide)
      have ir10a := ir10.1
      have ir10b := ir10.2
      refine lv_aload_n hx hb dX10_year_23 rfl (lv_at hl 1 rfl) ?_
      refine th_getK S hK f4 inG10 rfl (by decide) gm_509 rfl dX10_year_24 ?_
      refine th_callVX (n := 0) (As := []) S hK hH hS (th_A.sub (by decide)) (m_X3_advance l D cT T q hT hqr rf2 trf2) gm_891 gm_888 gm_889 gm_890 gm_120 (by decide +kernel) ⟨rfl, rfl, Nat.le_of_ble_eq_true rfl, Nat.le_of_ble_eq_true rfl⟩ trf2 kd_5 rfl rfl hl.1 rfl (Nat.le_of_ble_eq_true rfl) dX10_year_27 ⟨Nat.zero_le _, Nat.zero_le _⟩ (fun wq13 q13 H locs hvq13 hrq13 h0q13 hH hS hF1 => ?_)
      obtain ⟨_, rfl, rf12, rfl, trf12⟩ := hvq13
      have hqq13 := hrq13.1
      show W p l e (rmk 5 126) s m [.ref a0].toArray below meth c H locs 0 0 (MQ below (th_QX D cT T q (th_R T (some (.inl (-1, 63)))) [5, 18, 19, 29]) [.ref a0].toArray s 0 0 (th_A T [5, 18, 19, 29])) (F0 m 30 ls [.ref rf12])
      have f14 := f4.kept (hF1 _ f4.lt (th_off t0 (by decide)))
      refine lv_astore_n (lv' := [(2, .ref rf12), (1, .ref rf3), (0, .ref a0)]) hx hb dX10_year_30 rfl hl (by decide) rfl (fun ls hl => ?_)
      refine lv_aload_n hx hb dX10_year_31 rfl (lv_at hl 2 rfl) ?_
      refine th_get S hK hH inG10 t0 kd_0 rfl 3 (by decide) gm_508 rfl rfl dX10_year_32 (fun v15 hv15 fv15 => ?_)
      obtain ⟨rf16, rfl, trf16⟩ := th_V.ref hv15
      refine lv_aload_n hx hb dX10_year_35 rfl (lv_at hl 0 rfl) ?_
      refine th_callVv (n := 1) (As := [.ref rf12]) S hK hH hS (th_A.sub (by decide)) (m_X0_passYear l D cT T q13 hqq13 rf16 trf16 rf12 trf12) gm_908 gm_905 gm_906 gm_907 gm_119 (by decide +kernel) ⟨rfl, rfl, Nat.le_of_ble_eq_true rfl, Nat.le_of_ble_eq_true rfl⟩ trf16 kd_4 rfl rfl hl.1 rfl (Nat.le_of_ble_eq_true rfl) dX10_year_36 ⟨Nat.zero_le _, Nat.zero_le _⟩ (fun H locs hH hS hF1 => ?_)
      have f17 := f14.kept (hF1 _ f14.lt (th_off t0 (by decide)))
      have f18 := fv15.kept (hF1 _ fv15.lt (th_off t0 (by decide)))
      refine lv_aload_n hx hb dX10_year_39 rfl (lv_at hl 2 rfl) ?_
      refine th_getK S hK f18 inG10 rfl (by decide) gm_508 rfl dX10_year_40 ?_
      refine lv_aload_n hx hb dX10_year_43 rfl (lv_at hl 1 rfl) ?_
      refine lv_aload_n hx hb dX10_year_44 rfl (lv_at hl 0 rfl) ?_
      refine th_callVi (n := 2) (As := [.ref rf3, .ref rf12]) S hK hH hS (th_A.sub (by decide)) (m_X0_smaller l D cT T q13 hqq13 rf16 trf16 rf3 trf3 rf12 trf12) gm_937 gm_934 gm_935 gm_936 gm_119 (by decide +kernel) ⟨rfl, rfl, Nat.le_of_ble_eq_true rfl, Nat.le_of_ble_eq_true rfl⟩ trf16 kd_4 rfl rfl hl.1 rfl (Nat.le_of_ble_eq_true rfl) dX10_year_45 ⟨Nat.zero_le _, Nat.zero_le _⟩ (fun x20 H locs ix20 hH hS hF1 => ?_)
      have f21 := f17.kept (hF1 _ f17.lt (th_off t0 (by decide)))
      have f22 := f18.kept (hF1 _ f18.lt (th_off t0 (by decide)))
      refine th_callSi (n := 1) (As := [.int x20]) S hK hH hS (th_A.sub (by decide)) (m_J6_bitCount_0f7a4 l D cT T q13 hqq13 (x20) ix20) gm_715 gm_938 gm_714 gm_132 (by decide +kernel) ⟨rfl, rfl, Nat.le_of_ble_eq_true rfl, Nat.le_of_ble_eq_true rfl⟩ rfl hl.1 rfl (Nat.le_of_ble_eq_true rfl) dX10_year_48 ⟨Nat.zero_le _, Nat.zero_le _⟩ (fun x23 H locs ix23 hH hS hF1 => ?_)
      have f24 := f21.kept (hF1 _ f21.lt (th_off t0 (by decide)))
      have f25 := f22.kept (hF1 _ f22.lt (th_off t0 (by decide)))
      exact th_iretX S hK hH hS hr hlocks hrq13 h0q13 (th_R.i (iv_w ix23 (by decide))) dX10_year_51
    · skip
      have ir26 : IV x8 999 2147483647 := iv_vR (iv_c (by decide) : IV 999 999 999) ix8 (iv_nlt c9) (by decide)
      have ir26a := ir26.1
      have ir26b := ir26.2
      refine lv_iconst (v := (-1)) hx hb dX10_year_21 (by decide) ?_
      exact th_iretX S hK hH hS hr hlocks hqr rfl (th_R.i (iv_w (iv_c (by decide) : IV (-1) (-1) (-1)) (by decide))) dX10_year_22
  exact J0 s.heap [] ls hH va_S.rf hl
