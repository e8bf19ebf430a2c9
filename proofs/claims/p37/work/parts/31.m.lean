theorem dX6_formula_0 : decode cX6_formula 0 = .ok (.aload_n 0, 1) := by decide +kernel
theorem dX6_formula_1 : decode cX6_formula 1 = .ok (.iconst 0, 1) := by decide +kernel
theorem dX6_formula_2 : decode cX6_formula 2 = .ok (.putfield 22, 3) := by decide +kernel
theorem dX6_formula_5 : decode cX6_formula 5 = .ok (.aload_n 0, 1) := by decide +kernel
theorem dX6_formula_6 : decode cX6_formula 6 = .ok (.getfield 12, 3) := by decide +kernel
theorem dX6_formula_9 : decode cX6_formula 9 = .ok (.getfield 157, 3) := by decide +kernel
theorem dX6_formula_12 : decode cX6_formula 12 = .ok (.iload_n 1, 1) := by decide +kernel
theorem dX6_formula_13 : decode cX6_formula 13 = .ok (.invokevirtual 161, 3) := by decide +kernel
theorem dX6_formula_16 : decode cX6_formula 16 = .ok (.aload_n 0, 1) := by decide +kernel
theorem dX6_formula_17 : decode cX6_formula 17 = .ok (.iconst 0, 1) := by decide +kernel
theorem dX6_formula_18 : decode cX6_formula 18 = .ok (.iconst 0, 1) := by decide +kernel
theorem dX6_formula_19 : decode cX6_formula 19 = .ok (.invokevirtual 167, 3) := by decide +kernel
theorem dX6_formula_22 : decode cX6_formula 22 = .ok (.ifCond .ne 5, 3) := by decide +kernel
theorem dX6_formula_25 : decode cX6_formula 25 = .ok (.iconst 0, 1) := by decide +kernel
theorem dX6_formula_26 : decode cX6_formula 26 = .ok (.ireturn, 1) := by decide +kernel
theorem dX6_formula_27 : decode cX6_formula 27 = .ok (.aload_n 0, 1) := by decide +kernel
theorem dX6_formula_28 : decode cX6_formula 28 = .ok (.getfield 12, 3) := by decide +kernel
theorem dX6_formula_31 : decode cX6_formula 31 = .ok (.getfield 157, 3) := by decide +kernel
theorem dX6_formula_34 : decode cX6_formula 34 = .ok (.iload_n 1, 1) := by decide +kernel
theorem dX6_formula_35 : decode cX6_formula 35 = .ok (.invokevirtual 171, 3) := by decide +kernel
theorem dX6_formula_38 : decode cX6_formula 38 = .ok (.iconst 1, 1) := by decide +kernel
theorem dX6_formula_39 : decode cX6_formula 39 = .ok (.ireturn, 1) := by decide +kernel
theorem dX6_mapLine_0 : decode cX6_mapLine 0 = .ok (.aload_n 0, 1) := by decide +kernel
theorem dX6_mapLine_1 : decode cX6_mapLine 1 = .ok (.getfield 12, 3) := by decide +kernel
theorem dX6_mapLine_4 : decode cX6_mapLine 4 = .ok (.getfield 111, 3) := by decide +kernel
theorem dX6_mapLine_7 : decode cX6_mapLine 7 = .ok (.istore_n 1, 1) := by decide +kernel
theorem dX6_mapLine_8 : decode cX6_mapLine 8 = .ok (.aload_n 0, 1) := by decide +kernel
theorem dX6_mapLine_9 : decode cX6_mapLine 9 = .ok (.aload_n 0, 1) := by decide +kernel
theorem dX6_mapLine_10 : decode cX6_mapLine 10 = .ok (.getfield 12, 3) := by decide +kernel
theorem dX6_mapLine_13 : decode cX6_mapLine 13 = .ok (.getfield 114, 3) := by decide +kernel
theorem dX6_mapLine_16 : decode cX6_mapLine 16 = .ok (.iload_n 1, 1) := by decide +kernel
theorem dX6_mapLine_17 : decode cX6_mapLine 17 = .ok (.invokevirtual 103, 3) := by decide +kernel
theorem dX6_mapLine_20 : decode cX6_mapLine 20 = .ok (.ifCond .eq 13, 3) := by decide +kernel
theorem dX6_mapLine_23 : decode cX6_mapLine 23 = .ok (.aload_n 0, 1) := by decide +kernel
theorem dX6_mapLine_24 : decode cX6_mapLine 24 = .ok (.sipush 136, 3) := by decide +kernel
theorem dX6_mapLine_27 : decode cX6_mapLine 27 = .ok (.invokevirtual 93, 3) := by decide +kernel
theorem dX6_mapLine_30 : decode cX6_mapLine 30 = .ok (.ifCond .ne 5, 3) := by decide +kernel
theorem dX6_mapLine_33 : decode cX6_mapLine 33 = .ok (.iconst 0, 1) := by decide +kernel
theorem dX6_mapLine_34 : decode cX6_mapLine 34 = .ok (.ireturn, 1) := by decide +kernel
theorem dX6_mapLine_35 : decode cX6_mapLine 35 = .ok (.aload_n 0, 1) := by decide +kernel
theorem dX6_mapLine_36 : decode cX6_mapLine 36 = .ok (.iconst 1, 1) := by decide +kernel
theorem dX6_mapLine_37 : decode cX6_mapLine 37 = .ok (.bipush 9, 2) := by decide +kernel
theorem dX6_mapLine_39 : decode cX6_mapLine 39 = .ok (.invokevirtual 107, 3) := by decide +kernel
theorem dX6_mapLine_42 : decode cX6_mapLine 42 = .ok (.istore_n 2, 1) := by decide +kernel
theorem dX6_mapLine_43 : decode cX6_mapLine 43 = .ok (.iload_n 2, 1) := by decide +kernel
theorem dX6_mapLine_44 : decode cX6_mapLine 44 = .ok (.ifCond .lt 21, 3) := by decide +kernel
theorem dX6_mapLine_47 : decode cX6_mapLine 47 = .ok (.aload_n 0, 1) := by decide +kernel
theorem dX6_mapLine_48 : decode cX6_mapLine 48 = .ok (.sipush 143, 3) := by decide +kernel
theorem dX6_mapLine_51 : decode cX6_mapLine 51 = .ok (.invokevirtual 93, 3) := by decide +kernel
theorem dX6_mapLine_54 : decode cX6_mapLine 54 = .ok (.ifCond .eq 11, 3) := by decide +kernel
theorem dX6_mapLine_57 : decode cX6_mapLine 57 = .ok (.aload_n 0, 1) := by decide +kernel
theorem dX6_mapLine_58 : decode cX6_mapLine 58 = .ok (.iload_n 1, 1) := by decide +kernel
theorem dX6_mapLine_59 : decode cX6_mapLine 59 = .ok (.invokevirtual 74, 3) := by decide +kernel
theorem dX6_mapLine_62 : decode cX6_mapLine 62 = .ok (.ifCond .ne 5, 3) := by decide +kernel
theorem dX6_mapLine_65 : decode cX6_mapLine 65 = .ok (.iconst 0, 1) := by decide +kernel
theorem dX6_mapLine_66 : decode cX6_mapLine 66 = .ok (.ireturn, 1) := by decide +kernel
theorem dX6_mapLine_67 : decode cX6_mapLine 67 = .ok (.iconst 0, 1) := by decide +kernel
theorem dX6_mapLine_68 : decode cX6_mapLine 68 = .ok (.istore_n 3, 1) := by decide +kernel
theorem dX6_mapLine_69 : decode cX6_mapLine 69 = .ok (.aload_n 0, 1) := by decide +kernel
theorem dX6_mapLine_70 : decode cX6_mapLine 70 = .ok (.invokevirtual 43, 3) := by decide +kernel
theorem dX6_mapLine_73 : decode cX6_mapLine 73 = .ok (.sipush 144, 3) := by decide +kernel
theorem dX6_mapLine_76 : decode cX6_mapLine 76 = .ok (.if_icmp .ne 26, 3) := by decide +kernel
theorem dX6_mapLine_79 : decode cX6_mapLine 79 = .ok (.aload_n 0, 1) := by decide +kernel
theorem dX6_mapLine_80 : decode cX6_mapLine 80 = .ok (.dup, 1) := by decide +kernel
theorem dX6_mapLine_81 : decode cX6_mapLine 81 = .ok (.getfield 18, 3) := by decide +kernel
theorem dX6_mapLine_84 : decode cX6_mapLine 84 = .ok (.iconst 1, 1) := by decide +kernel
theorem dX6_mapLine_85 : decode cX6_mapLine 85 = .ok (.iadd, 1) := by decide +kernel
theorem dX6_mapLine_86 : decode cX6_mapLine 86 = .ok (.putfield 18, 3) := by decide +kernel
theorem dX6_mapLine_89 : decode cX6_mapLine 89 = .ok (.aload_n 0, 1) := by decide +kernel
theorem dX6_mapLine_90 : decode cX6_mapLine 90 = .ok (.iconst 0, 1) := by decide +kernel
theorem dX6_mapLine_91 : decode cX6_mapLine 91 = .ok (.iconst 3, 1) := by decide +kernel
theorem dX6_mapLine_92 : decode cX6_mapLine 92 = .ok (.invokevirtual 107, 3) := by decide +kernel
theorem dX6_mapLine_95 : decode cX6_mapLine 95 = .ok (.istore_n 3, 1) := by decide +kernel
theorem dX6_mapLine_96 : decode cX6_mapLine 96 = .ok (.iload_n 3, 1) := by decide +kernel
theorem dX6_mapLine_97 : decode cX6_mapLine 97 = .ok (.ifCond .ge 5, 3) := by decide +kernel
theorem dX6_mapLine_100 : decode cX6_mapLine 100 = .ok (.iconst 0, 1) := by decide +kernel
theorem dX6_mapLine_101 : decode cX6_mapLine 101 = .ok (.ireturn, 1) := by decide +kernel
theorem dX6_mapLine_102 : decode cX6_mapLine 102 = .ok (.aload_n 0, 1) := by decide +kernel
theorem dX6_mapLine_103 : decode cX6_mapLine 103 = .ok (.invokevirtual 43, 3) := by decide +kernel
theorem dX6_mapLine_106 : decode cX6_mapLine 106 = .ok (.sipush 145, 3) := by decide +kernel
theorem dX6_mapLine_109 : decode cX6_mapLine 109 = .ok (.if_icmp .ne 32, 3) := by decide +kernel
theorem dX6_mapLine_112 : decode cX6_mapLine 112 = .ok (.aload_n 0, 1) := by decide +kernel
theorem dX6_mapLine_113 : decode cX6_mapLine 113 = .ok (.dup, 1) := by decide +kernel
theorem dX6_mapLine_114 : decode cX6_mapLine 114 = .ok (.getfield 18, 3) := by decide +kernel
theorem dX6_mapLine_117 : decode cX6_mapLine 117 = .ok (.iconst 1, 1) := by decide +kernel
theorem dX6_mapLine_118 : decode cX6_mapLine 118 = .ok (.iadd, 1) := by decide +kernel
theorem dX6_mapLine_119 : decode cX6_mapLine 119 = .ok (.putfield 18, 3) := by decide +kernel
theorem dX6_mapLine_122 : decode cX6_mapLine 122 = .ok (.aload_n 0, 1) := by decide +kernel
theorem dX6_mapLine_123 : decode cX6_mapLine 123 = .ok (.getfield 12, 3) := by decide +kernel
theorem dX6_mapLine_126 : decode cX6_mapLine 126 = .ok (.getfield 80, 3) := by decide +kernel
theorem dX6_mapLine_129 : decode cX6_mapLine 129 = .ok (.getfield 84, 3) := by decide +kernel
theorem dX6_mapLine_132 : decode cX6_mapLine 132 = .ok (.bipush 39, 2) := by decide +kernel
theorem dX6_mapLine_134 : decode cX6_mapLine 134 = .ok (.dup2, 1) := by decide +kernel
theorem dX6_mapLine_135 : decode cX6_mapLine 135 = .ok (.iaload, 1) := by decide +kernel
theorem dX6_mapLine_136 : decode cX6_mapLine 136 = .ok (.iconst 1, 1) := by decide +kernel
theorem dX6_mapLine_137 : decode cX6_mapLine 137 = .ok (.iload_n 1, 1) := by decide +kernel
theorem dX6_mapLine_138 : decode cX6_mapLine 138 = .ok (.ishl, 1) := by decide +kernel
theorem dX6_mapLine_139 : decode cX6_mapLine 139 = .ok (.ior, 1) := by decide +kernel
theorem dX6_mapLine_140 : decode cX6_mapLine 140 = .ok (.iastore, 1) := by decide +kernel
theorem dX6_mapLine_141 : decode cX6_mapLine 141 = .ok (.aload_n 0, 1) := by decide +kernel
theorem dX6_mapLine_142 : decode cX6_mapLine 142 = .ok (.getfield 12, 3) := by decide +kernel
theorem dX6_mapLine_145 : decode cX6_mapLine 145 = .ok (.getfield 117, 3) := by decide +kernel
theorem dX6_mapLine_148 : decode cX6_mapLine 148 = .ok (.iload_n 1, 1) := by decide +kernel
theorem dX6_mapLine_149 : decode cX6_mapLine 149 = .ok (.iload_n 2, 1) := by decide +kernel
theorem dX6_mapLine_150 : decode cX6_mapLine 150 = .ok (.iastore, 1) := by decide +kernel
theorem dX6_mapLine_151 : decode cX6_mapLine 151 = .ok (.aload_n 0, 1) := by decide +kernel
theorem dX6_mapLine_152 : decode cX6_mapLine 152 = .ok (.getfield 12, 3) := by decide +kernel
theorem dX6_mapLine_155 : decode cX6_mapLine 155 = .ok (.getfield 80, 3) := by decide +kernel
theorem dX6_mapLine_158 : decode cX6_mapLine 158 = .ok (.getfield 84, 3) := by decide +kernel
theorem dX6_mapLine_161 : decode cX6_mapLine 161 = .ok (.bipush 35, 2) := by decide +kernel
theorem dX6_mapLine_163 : decode cX6_mapLine 163 = .ok (.iload_n 1, 1) := by decide +kernel
theorem dX6_mapLine_164 : decode cX6_mapLine 164 = .ok (.iadd, 1) := by decide +kernel
theorem dX6_mapLine_165 : decode cX6_mapLine 165 = .ok (.iload_n 3, 1) := by decide +kernel
theorem dX6_mapLine_166 : decode cX6_mapLine 166 = .ok (.iastore, 1) := by decide +kernel
theorem dX6_mapLine_167 : decode cX6_mapLine 167 = .ok (.aload_n 0, 1) := by decide +kernel
theorem dX6_mapLine_168 : decode cX6_mapLine 168 = .ok (.getfield 12, 3) := by decide +kernel
theorem dX6_mapLine_171 : decode cX6_mapLine 171 = .ok (.dup, 1) := by decide +kernel
theorem dX6_mapLine_172 : decode cX6_mapLine 172 = .ok (.getfield 111, 3) := by decide +kernel
theorem dX6_mapLine_175 : decode cX6_mapLine 175 = .ok (.iconst 1, 1) := by decide +kernel
theorem dX6_mapLine_176 : decode cX6_mapLine 176 = .ok (.iadd, 1) := by decide +kernel
theorem dX6_mapLine_177 : decode cX6_mapLine 177 = .ok (.putfield 111, 3) := by decide +kernel
theorem dX6_mapLine_180 : decode cX6_mapLine 180 = .ok (.iconst 1, 1) := by decide +kernel
theorem dX6_mapLine_181 : decode cX6_mapLine 181 = .ok (.ireturn, 1) := by decide +kernel
theorem dX6_knownName_0 : decode cX6_knownName 0 = .ok (.aload_n 0, 1) := by decide +kernel
theorem dX6_knownName_1 : decode cX6_knownName 1 = .ok (.invokevirtual 43, 3) := by decide +kernel
theorem dX6_knownName_4 : decode cX6_knownName 4 = .ok (.iconst 2, 1) := by decide +kernel
theorem dX6_knownName_5 : decode cX6_knownName 5 = .ok (.if_icmp .eq 11, 3) := by decide +kernel
theorem dX6_knownName_8 : decode cX6_knownName 8 = .ok (.aload_n 0, 1) := by decide +kernel
theorem dX6_knownName_9 : decode cX6_knownName 9 = .ok (.iconst 2, 1) := by decide +kernel
theorem dX6_knownName_10 : decode cX6_knownName 10 = .ok (.invokevirtual 51, 3) := by decide +kernel
theorem dX6_knownName_13 : decode cX6_knownName 13 = .ok (.pop, 1) := by decide +kernel
theorem dX6_knownName_14 : decode cX6_knownName 14 = .ok (.iconst (-1), 1) := by decide +kernel
theorem dX6_knownName_15 : decode cX6_knownName 15 = .ok (.ireturn, 1) := by decide +kernel
theorem dX6_knownName_16 : decode cX6_knownName 16 = .ok (.aload_n 0, 1) := by decide +kernel
theorem dX6_knownName_17 : decode cX6_knownName 17 = .ok (.aload_n 1, 1) := by decide +kernel
theorem dX6_knownName_18 : decode cX6_knownName 18 = .ok (.iload_n 2, 1) := by decide +kernel
theorem dX6_knownName_19 : decode cX6_knownName 19 = .ok (.invokevirtual 191, 3) := by decide +kernel
theorem dX6_knownName_22 : decode cX6_knownName 22 = .ok (.istore_n 3, 1) := by decide +kernel
theorem dX6_knownName_23 : decode cX6_knownName 23 = .ok (.iload_n 3, 1) := by decide +kernel
theorem dX6_knownName_24 : decode cX6_knownName 24 = .ok (.ifCond .ge 9, 3) := by decide +kernel
theorem dX6_knownName_27 : decode cX6_knownName 27 = .ok (.aload_n 0, 1) := by decide +kernel
theorem dX6_knownName_28 : decode cX6_knownName 28 = .ok (.iconst 5, 1) := by decide +kernel
theorem dX6_knownName_29 : decode cX6_knownName 29 = .ok (.invokevirtual 51, 3) := by decide +kernel
theorem dX6_knownName_32 : decode cX6_knownName 32 = .ok (.pop, 1) := by decide +kernel
theorem dX6_knownName_33 : decode cX6_knownName 33 = .ok (.iload_n 3, 1) := by decide +kernel
theorem dX6_knownName_34 : decode cX6_knownName 34 = .ok (.ireturn, 1) := by decide +kernel
theorem dX6_mapsOfPlace_0 : decode cX6_mapsOfPlace 0 = .ok (.iconst 0, 1) := by decide +kernel
theorem dX6_mapsOfPlace_1 : decode cX6_mapsOfPlace 1 = .ok (.istore_n 2, 1) := by decide +kernel
theorem dX6_mapsOfPlace_2 : decode cX6_mapsOfPlace 2 = .ok (.iload_n 2, 1) := by decide +kernel
theorem dX6_mapsOfPlace_3 : decode cX6_mapsOfPlace 3 = .ok (.ifCond .eq 16, 3) := by decide +kernel
theorem dX6_mapsOfPlace_6 : decode cX6_mapsOfPlace 6 = .ok (.iload_n 2, 1) := by decide +kernel
theorem dX6_mapsOfPlace_7 : decode cX6_mapsOfPlace 7 = .ok (.iconst 4, 1) := by decide +kernel
theorem dX6_mapsOfPlace_8 : decode cX6_mapsOfPlace 8 = .ok (.if_icmp .gt 104, 3) := by decide +kernel
theorem dX6_mapsOfPlace_11 : decode cX6_mapsOfPlace 11 = .ok (.aload_n 0, 1) := by decide +kernel
theorem dX6_mapsOfPlace_12 : decode cX6_mapsOfPlace 12 = .ok (.invokevirtual 43, 3) := by decide +kernel
theorem dX6_mapsOfPlace_15 : decode cX6_mapsOfPlace 15 = .ok (.iconst 2, 1) := by decide +kernel
theorem dX6_mapsOfPlace_16 : decode cX6_mapsOfPlace 16 = .ok (.if_icmp .ne 96, 3) := by decide +kernel
theorem dX6_mapsOfPlace_19 : decode cX6_mapsOfPlace 19 = .ok (.aload_n 0, 1) := by decide +kernel
theorem dX6_mapsOfPlace_20 : decode cX6_mapsOfPlace 20 = .ok (.aload_n 0, 1) := by decide +kernel
theorem dX6_mapsOfPlace_21 : decode cX6_mapsOfPlace 21 = .ok (.getfield 12, 3) := by decide +kernel
theorem dX6_mapsOfPlace_24 : decode cX6_mapsOfPlace 24 = .ok (.getfield 114, 3) := by decide +kernel
theorem dX6_mapsOfPlace_27 : decode cX6_mapsOfPlace 27 = .ok (.aload_n 0, 1) := by decide +kernel
theorem dX6_mapsOfPlace_28 : decode cX6_mapsOfPlace 28 = .ok (.getfield 12, 3) := by decide +kernel
theorem dX6_mapsOfPlace_31 : decode cX6_mapsOfPlace 31 = .ok (.getfield 111, 3) := by decide +kernel
theorem dX6_mapsOfPlace_34 : decode cX6_mapsOfPlace 34 = .ok (.invokevirtual 132, 3) := by decide +kernel
theorem dX6_mapsOfPlace_37 : decode cX6_mapsOfPlace 37 = .ok (.istore_n 3, 1) := by decide +kernel
theorem dX6_mapsOfPlace_38 : decode cX6_mapsOfPlace 38 = .ok (.iload_n 3, 1) := by decide +kernel
theorem dX6_mapsOfPlace_39 : decode cX6_mapsOfPlace 39 = .ok (.ifCond .ge 5, 3) := by decide +kernel
theorem dX6_mapsOfPlace_42 : decode cX6_mapsOfPlace 42 = .ok (.iconst 0, 1) := by decide +kernel
theorem dX6_mapsOfPlace_43 : decode cX6_mapsOfPlace 43 = .ok (.ireturn, 1) := by decide +kernel
theorem dX6_mapsOfPlace_44 : decode cX6_mapsOfPlace 44 = .ok (.aload_n 0, 1) := by decide +kernel
theorem dX6_mapsOfPlace_45 : decode cX6_mapsOfPlace 45 = .ok (.getfield 12, 3) := by decide +kernel
theorem dX6_mapsOfPlace_48 : decode cX6_mapsOfPlace 48 = .ok (.getfield 136, 3) := by decide +kernel
theorem dX6_mapsOfPlace_51 : decode cX6_mapsOfPlace 51 = .ok (.iload_n 1, 1) := by decide +kernel
theorem dX6_mapsOfPlace_52 : decode cX6_mapsOfPlace 52 = .ok (.iaload, 1) := by decide +kernel
theorem dX6_mapsOfPlace_53 : decode cX6_mapsOfPlace 53 = .ok (.iload_n 3, 1) := by decide +kernel
theorem dX6_mapsOfPlace_54 : decode cX6_mapsOfPlace 54 = .ok (.ishr, 1) := by decide +kernel
theorem dX6_mapsOfPlace_55 : decode cX6_mapsOfPlace 55 = .ok (.iconst 1, 1) := by decide +kernel
theorem dX6_mapsOfPlace_56 : decode cX6_mapsOfPlace 56 = .ok (.iand, 1) := by decide +kernel
theorem dX6_mapsOfPlace_57 : decode cX6_mapsOfPlace 57 = .ok (.ifCond .eq 9, 3) := by decide +kernel
theorem dX6_mapsOfPlace_60 : decode cX6_mapsOfPlace 60 = .ok (.aload_n 0, 1) := by decide +kernel
theorem dX6_mapsOfPlace_61 : decode cX6_mapsOfPlace 61 = .ok (.iconst 3, 1) := by decide +kernel
theorem dX6_mapsOfPlace_62 : decode cX6_mapsOfPlace 62 = .ok (.invokevirtual 51, 3) := by decide +kernel
theorem dX6_mapsOfPlace_65 : decode cX6_mapsOfPlace 65 = .ok (.ireturn, 1) := by decide +kernel
theorem dX6_mapsOfPlace_66 : decode cX6_mapsOfPlace 66 = .ok (.aload_n 0, 1) := by decide +kernel
theorem dX6_mapsOfPlace_67 : decode cX6_mapsOfPlace 67 = .ok (.getfield 12, 3) := by decide +kernel
theorem dX6_mapsOfPlace_70 : decode cX6_mapsOfPlace 70 = .ok (.getfield 136, 3) := by decide +kernel
theorem dX6_mapsOfPlace_73 : decode cX6_mapsOfPlace 73 = .ok (.iload_n 1, 1) := by decide +kernel
theorem dX6_mapsOfPlace_74 : decode cX6_mapsOfPlace 74 = .ok (.dup2, 1) := by decide +kernel
theorem dX6_mapsOfPlace_75 : decode cX6_mapsOfPlace 75 = .ok (.iaload, 1) := by decide +kernel
theorem dX6_mapsOfPlace_76 : decode cX6_mapsOfPlace 76 = .ok (.iconst 1, 1) := by decide +kernel
theorem dX6_mapsOfPlace_77 : decode cX6_mapsOfPlace 77 = .ok (.iload_n 3, 1) := by decide +kernel
theorem dX6_mapsOfPlace_78 : decode cX6_mapsOfPlace 78 = .ok (.ishl, 1) := by decide +kernel
theorem dX6_mapsOfPlace_79 : decode cX6_mapsOfPlace 79 = .ok (.ior, 1) := by decide +kernel
theorem dX6_mapsOfPlace_80 : decode cX6_mapsOfPlace 80 = .ok (.iastore, 1) := by decide +kernel
theorem dX6_mapsOfPlace_81 : decode cX6_mapsOfPlace 81 = .ok (.aload_n 0, 1) := by decide +kernel
theorem dX6_mapsOfPlace_82 : decode cX6_mapsOfPlace 82 = .ok (.getfield 12, 3) := by decide +kernel
theorem dX6_mapsOfPlace_85 : decode cX6_mapsOfPlace 85 = .ok (.getfield 139, 3) := by decide +kernel
theorem dX6_mapsOfPlace_88 : decode cX6_mapsOfPlace 88 = .ok (.iload_n 3, 1) := by decide +kernel
theorem dX6_mapsOfPlace_89 : decode cX6_mapsOfPlace 89 = .ok (.dup2, 1) := by decide +kernel
theorem dX6_mapsOfPlace_90 : decode cX6_mapsOfPlace 90 = .ok (.iaload, 1) := by decide +kernel
theorem dX6_mapsOfPlace_91 : decode cX6_mapsOfPlace 91 = .ok (.iconst 1, 1) := by decide +kernel
theorem dX6_mapsOfPlace_92 : decode cX6_mapsOfPlace 92 = .ok (.iload_n 1, 1) := by decide +kernel
theorem dX6_mapsOfPlace_93 : decode cX6_mapsOfPlace 93 = .ok (.ishl, 1) := by decide +kernel
theorem dX6_mapsOfPlace_94 : decode cX6_mapsOfPlace 94 = .ok (.ior, 1) := by decide +kernel
theorem dX6_mapsOfPlace_95 : decode cX6_mapsOfPlace 95 = .ok (.iastore, 1) := by decide +kernel
theorem dX6_mapsOfPlace_96 : decode cX6_mapsOfPlace 96 = .ok (.aload_n 0, 1) := by decide +kernel
theorem dX6_mapsOfPlace_97 : decode cX6_mapsOfPlace 97 = .ok (.dup, 1) := by decide +kernel
theorem dX6_mapsOfPlace_98 : decode cX6_mapsOfPlace 98 = .ok (.getfield 18, 3) := by decide +kernel
theorem dX6_mapsOfPlace_101 : decode cX6_mapsOfPlace 101 = .ok (.iconst 1, 1) := by decide +kernel
theorem dX6_mapsOfPlace_102 : decode cX6_mapsOfPlace 102 = .ok (.iadd, 1) := by decide +kernel
theorem dX6_mapsOfPlace_103 : decode cX6_mapsOfPlace 103 = .ok (.putfield 18, 3) := by decide +kernel
theorem dX6_mapsOfPlace_106 : decode cX6_mapsOfPlace 106 = .ok (.iinc 2 1, 3) := by decide +kernel
theorem dX6_mapsOfPlace_109 : decode cX6_mapsOfPlace 109 = .ok (.goto (-107), 3) := by decide +kernel
theorem dX6_mapsOfPlace_112 : decode cX6_mapsOfPlace 112 = .ok (.iconst 1, 1) := by decide +kernel
theorem dX6_mapsOfPlace_113 : decode cX6_mapsOfPlace 113 = .ok (.ireturn, 1) := by decide +kernel
set_option maxRecDepth 100000 in
theorem m_X6_climb_d0l5 (l : Launch) (D : va_G) (cT : Nat → ClassId) (T : Nat → Option Nat) (q : Nat → Int) (hq : qok q) (a0 : Nat) (t0 : T a0 = some 2) (y1 : Int32) (j1 : IV y1 5 5) (y2 : Int32) (j2 : IV y2 0 0) : th_Met l D cT T (kd q) yX6_climb cX6_climb 7 (some .boolean) (rmk 51 1298) [.ref a0, .int y1, .int y2] (th_R T (some (.inl (0, 1)))) [2, 56, 57] := by
  refine th_start (by decide) (Nat.le_of_ble_eq_true rfl) ?_
  intro p e s m below meth c ls S hK hH hr hlocks hnm hl
  have hx := S.1
  have hb := S.2.1
  have hl : lv_has ls 7 [(0, .ref a0), (1, .int y1), (2, .int y2)] := hl
  have J83 : ∀ (n : Nat) (H : Heap) (locs : List Loc) (ls : Array Slot) (v83_3 : Int32) (v83_4 : Int32), IV v83_3 4 4 → IV v83_4 0 0 → th_H D cT T (kd q) H → va_S (th_A T [2, 56, 57]) s.heap H locs → lv_has ls 7 [(0, .ref a0), (1, .int y1), (2, .int y2), (3, .int v83_3), (4, .int v83_4)] → (4 + 1 - v83_3.toInt).toNat < n → W p l e (rmk 51 1298) s m [.ref a0, .int y1, .int y2].toArray below meth c H locs 0 0 (MQ below (th_Q D cT T (kd q) (th_R T (some (.inl (0, 1)))) [2, 56, 57]) [.ref a0, .int y1, .int y2].toArray s 0 0 (th_A T [2, 56, 57])) (F0 m 83 ls []) := by
    intro n
    induction n with
    | zero => intro H locs ls v83_3 v83_4 iv83_3 iv83_4 hH hS hl hn; exact absurd hn (Nat.not_lt_zero _)
    | succ n ih83 =>
      intro H locs ls v83_3 v83_4 iv83_3 iv83_4 hH hS hl hn83
      have J120 : ∀ (H : Heap) (locs : List Loc) (ls : Array Slot), th_H D cT T (kd q) H → va_S (th_A T [2, 56, 57]) s.heap H locs → lv_has ls 7 [] → W p l e (rmk 51 1298) s m [.ref a0, .int y1, .int y2].toArray below meth c H locs 0 0 (MQ below (th_Q D cT T (kd q) (th_R T (some (.inl (0, 1)))) [2, 56, 57]) [.ref a0, .int y1, .int y2].toArray s 0 0 (th_A T [2, 56, 57])) (F0 m 120 ls []) := by
        intro H locs ls hH hS hl
        refine lv_iconst (v := 1) hx hb dX6_climb_120 (by decide) ?_
        exact th_zret S hK hH hS hr hlocks (iv_w (iv_c (by decide) : IV 1 1 1) (by decide)) (th_R.i (iv_w (iv_c (by decide) : IV 1 1 1) (by decide))) dX6_climb_121
      refine lv_iload hx hb dX6_climb_83 (lv_at hl 4 rfl) ?_
      refine lv_aload_n hx hb dX6_climb_85 rfl (lv_at hl 0 rfl) ?_
      refine th_get S hK hH inG6 t0 kd_2 rfl 0 (by decide) gm_339 rfl rfl dX6_climb_86 (fun v1 hv1 fv1 => ?_)
      obtain ⟨rf2, rfl, trf2⟩ := th_V.ref hv1
      refine th_get S hK hH inG8 trf2 kd_1 rfl 5 (by decide) gm_159 rfl rfl dX6_climb_89 (fun v3 hv3 fv3 => ?_)
      obtain ⟨x4, rfl, ix4⟩ := th_V.int hv3
      refine lv_icmp_ge (tgt := 178) hx hb dX6_climb_92 (by decide) (fun c5 => ?_) (fun c5 => ?_)
      · skip
        have ir6 : IV x4 0 0 := iv_vL ix4 iv83_4 (iv_le c5) (by decide)
        refine lv_iconst (v := 1) hx hb dX6_climb_178 (by decide) ?_
        exact th_zret S hK hH hS hr hlocks (iv_w (iv_c (by decide) : IV 1 1 1) (by decide)) (th_R.i (iv_w (iv_c (by decide) : IV 1 1 1) (by decide))) dX6_climb_179
      · skip
        have ir7 : IV x4 1 1601 := iv_uR iv83_4 ix4 (iv_nle c5) (by decide)
        refine lv_aload_n hx hb dX6_climb_95 rfl (lv_at hl 0 rfl) ?_
        refine th_callVi (n := 0) (As := []) S hK hH hS (th_A.sub (by decide)) (m_X6_kind l D cT T q hq a0 t0) gm_708 gm_705 gm_707 gm_5 gm_115 (by decide +kernel) ⟨rfl, rfl, Nat.le_of_ble_eq_true rfl, Nat.le_of_ble_eq_true rfl⟩ t0 kd_2 rfl rfl hl.1 rfl (Nat.le_of_ble_eq_true rfl) dX6_climb_96 ⟨Nat.zero_le _, Nat.zero_le _⟩ (fun x8 H locs ix8 hH hS hF1 => ?_)
        refine lv_istore (lv' := [(5, .int x8), (0, .ref a0), (1, .int y1), (2, .int y2), (3, .int v83_3), (4, .int v83_4)]) hx hb dX6_climb_99 hl (by decide) rfl (fun ls hl => ?_)
        refine lv_iload hx hb dX6_climb_101 (lv_at hl 0 rfl) ?_
        refine th_callSi (n := 1) (As := [.int x8]) S hK hH hS (th_A.sub (by decide)) (m_X6_levelOf l D cT T q hq (x8) ix8) gm_773 gm_771 gm_772 gm_115 (by decide +kernel) ⟨rfl, rfl, Nat.le_of_ble_eq_true rfl, Nat.le_of_ble_eq_true rfl⟩ rfl hl.1 rfl (Nat.le_of_ble_eq_true rfl) dX6_climb_103 ⟨Nat.zero_le _, Nat.zero_le _⟩ (fun x9 H locs ix9 hH hS hF1 => ?_)
        refine lv_istore (lv' := [(6, .int x9), (5, .int x8), (0, .ref a0), (1, .int y1), (2, .int y2), (3, .int v83_3), (4, .int v83_4)]) hx hb dX6_climb_106 hl (by decide) rfl (fun ls hl => ?_)
        refine lv_iload hx hb dX6_climb_108 (lv_at hl 0 rfl) ?_
        refine lv_iload_n hx hb dX6_climb_110 rfl (lv_at hl 3 rfl) ?_
        refine lv_icmp_lt (tgt := 120) hx hb dX6_climb_111 (by decide) (fun c10 => ?_) (fun c10 => ?_)
        · skip
          exact J120 H locs ls  hH hS (lv_sub hl [] rfl)
        · skip
          exfalso
          have z1 := iv_nlt c10
          have z2 := (ix9).1
          have z3 := (ix9).2
          have z4 := (j1).1
          have z5 := (j1).2
          omega
  have J80 : ∀ (H : Heap) (locs : List Loc) (ls : Array Slot) (v80_3 : Int32), IV v80_3 4 4 → th_H D cT T (kd q) H → va_S (th_A T [2, 56, 57]) s.heap H locs → lv_has ls 7 [(0, .ref a0), (1, .int y1), (2, .int y2), (3, .int v80_3)] → W p l e (rmk 51 1298) s m [.ref a0, .int y1, .int y2].toArray below meth c H locs 0 0 (MQ below (th_Q D cT T (kd q) (th_R T (some (.inl (0, 1)))) [2, 56, 57]) [.ref a0, .int y1, .int y2].toArray s 0 0 (th_A T [2, 56, 57])) (F0 m 80 ls []) := by
    intro H locs ls v80_3 iv80_3 hH hS hl
    refine lv_iconst (v := 0) hx hb dX6_climb_80 (by decide) ?_
    refine lv_istore (lv' := [(4, .int 0), (0, .ref a0), (1, .int y1), (2, .int y2), (3, .int v80_3)]) hx hb dX6_climb_81 hl (by decide) rfl (fun ls hl => ?_)
    exact J83 ((4 + 1 - Int32.toInt v80_3).toNat + 1) H locs ls v80_3 0 iv80_3 (iv_c (by decide) : IV 0 0 0) hH hS (lv_sub hl [1, 2, 3, 4, 0] rfl) (Nat.lt_succ_self _)
  have J70 : ∀ (H : Heap) (locs : List Loc) (ls : Array Slot) (v70_3 : Int32), IV v70_3 4 4 → th_H D cT T (kd q) H → va_S (th_A T [2, 56, 57]) s.heap H locs → lv_has ls 7 [(0, .ref a0), (1, .int y1), (2, .int y2), (3, .int v70_3)] → W p l e (rmk 51 1298) s m [.ref a0, .int y1, .int y2].toArray below meth c H locs 0 0 (MQ below (th_Q D cT T (kd q) (th_R T (some (.inl (0, 1)))) [2, 56, 57]) [.ref a0, .int y1, .int y2].toArray s 0 0 (th_A T [2, 56, 57])) (F0 m 70 ls []) := by
    intro H locs ls v70_3 iv70_3 hH hS hl
    refine lv_aload_n hx hb dX6_climb_70 rfl (lv_at hl 0 rfl) ?_
    refine lv_iload_n hx hb dX6_climb_71 rfl (lv_at hl 2 rfl) ?_
    refine th_callVi (n := 1) (As := [.int y2]) S hK hH hS (th_A.sub (by decide)) (m_X6_unit_d0 l D cT T q hq a0 t0 (y2) j2) gm_770 gm_767 gm_769 gm_16 gm_115 (by decide +kernel) ⟨rfl, rfl, Nat.le_of_ble_eq_true rfl, Nat.le_of_ble_eq_true rfl⟩ t0 kd_2 rfl rfl hl.1 rfl (Nat.le_of_ble_eq_true rfl) dX6_climb_72 ⟨Nat.zero_le _, Nat.zero_le _⟩ (fun x11 H locs ix11 hH hS hF1 => ?_)
    refine lv_if_ne (tgt := 80) hx hb dX6_climb_75 (by decide) (fun c12 => ?_) (fun c12 => ?_)
    · skip
      have ir13 : IV x11 1 1 := iv_cutL ix11 (iv_c (by decide) : IV 0 0 0) c12 (by decide)
      exact J80 H locs ls v70_3 iv70_3 hH hS (lv_sub hl [0, 1, 2, 3] rfl)
    · skip
      have ir14 : IV x11 0 0 := iv_eL c12 (iv_c (by decide) : IV 0 0 0)
      refine lv_iconst (v := 0) hx hb dX6_climb_78 (by decide) ?_
      exact th_zret S hK hH hS hr hlocks (iv_w (iv_c (by decide) : IV 0 0 0) (by decide)) (th_R.i (iv_w (iv_c (by decide) : IV 0 0 0) (by decide))) dX6_climb_79
  have J0 : ∀ (H : Heap) (locs : List Loc) (ls : Array Slot), th_H D cT T (kd q) H → va_S (th_A T [2, 56, 57]) s.heap H locs → lv_has ls 7 [(0, .ref a0), (1, .int y1), (2, .int y2)] → W p l e (rmk 51 1298) s m [.ref a0, .int y1, .int y2].toArray below meth c H locs 0 0 (MQ below (th_Q D cT T (kd q) (th_R T (some (.inl (0, 1)))) [2, 56, 57]) [.ref a0, .int y1, .int y2].toArray s 0 0 (th_A T [2, 56, 57])) (F0 m 0 ls []) := by
    intro H locs ls hH hS hl
    refine lv_iconst (v := 4) hx hb dX6_climb_0 (by decide) ?_
    refine lv_istore_n (lv' := [(3, .int 4), (0, .ref a0), (1, .int y1), (2, .int y2)]) hx hb dX6_climb_1 rfl hl (by decide) rfl (fun ls hl => ?_)
    refine lv_aload_n hx hb dX6_climb_2 rfl (lv_at hl 1 rfl) ?_
    refine th_callVi (n := 0) (As := []) S hK hH hS (th_A.sub (by decide)) (m_X6_kind l D cT T q hq a0 t0) gm_708 gm_705 gm_707 gm_5 gm_115 (by decide +kernel) ⟨rfl, rfl, Nat.le_of_ble_eq_true rfl, Nat.le_of_ble_eq_true rfl⟩ t0 kd_2 rfl rfl hl.1 rfl (Nat.le_of_ble_eq_true rfl) dX6_climb_3 ⟨Nat.zero_le _, Nat.zero_le _⟩ (fun x15 H locs ix15 hH hS hF1 => ?_)
    refine lv_sipush (v := 149) hx hb dX6_climb_6 (by decide) ?_
    refine lv_icmp_ne (tgt := 70) hx hb dX6_climb_9 (by decide) (fun c16 => ?_) (fun c16 => ?_)
    · skip
      exact J70 H locs ls 4 (iv_c (by decide) : IV 4 4 4) hH hS (lv_sub hl [1, 2, 3, 0] rfl)
    · skip
      have ir17 : IV x15 149 149 := iv_eL c16 (iv_c (by decide) : IV 149 149 149)
      refine lv_iload_n hx hb dX6_climb_12 rfl (lv_at hl 2 rfl) ?_
      refine lv_iconst (v := 2) hx hb dX6_climb_13 (by decide) ?_
      refine lv_icmp_gt (tgt := 70) hx hb dX6_climb_14 (by decide) (fun c18 => ?_) (fun c18 => ?_)
      · skip
        exact J70 H locs ls 4 (iv_c (by decide) : IV 4 4 4) hH hS (lv_sub hl [1, 2, 3, 0] rfl)
      · skip
        exfalso
        have z1 := iv_nlt c18
        have z2 := ((iv_c (by decide) : IV 2 2 2)).1
        have z3 := ((iv_c (by decide) : IV 2 2 2)).2
        have z4 := (j1).1
        have z5 := (j1).2
        omega
  exact J0 s.heap [] ls hH va_S.rf hl

set_option maxRecDepth 100000 in
theorem m_X6_climb_d0l4 (l : Launch) (D : va_G) (cT : Nat → ClassId) (T : Nat → Option Nat) (q : Nat → Int) (hq : qok q) (a0 : Nat) (t0 : T a0 = some 2) (y1 : Int32) (j1 : IV y1 4 5) (y2 : Int32) (j2 : IV y2 0 0) : th_Met l D cT T (kd q) yX6_climb cX6_climb 7 (some .boolean) (rmk 52 1324) [.ref a0, .int y1, .int y2] (th_R T (some (.inl (0, 1)))) [2, 56, 57] := by
  refine th_start (by decide) (Nat.le_of_ble_eq_true rfl) ?_
  intro p e s m below meth c ls S hK hH hr hlocks hnm hl
  have hx := S.1
  have hb := S.2.1
  have hl : lv_has ls 7 [(0, .ref a0), (1, .int y1), (2, .int y2)] := hl
  have J83 : ∀ (n : Nat) (H : Heap) (locs : List Loc) (ls : Array Slot) (v83_3 : Int32) (v83_4 : Int32), IV v83_3 4 4 → IV v83_4 0 1601 → th_H D cT T (kd q) H → va_S (th_A T [2, 56, 57]) s.heap H locs → lv_has ls 7 [(0, .ref a0), (1, .int y1), (2, .int y2), (3, .int v83_3), (4, .int v83_4)] → (1601 + 1 - v83_4.toInt).toNat < n → W p l e (rmk 52 1324) s m [.ref a0, .int y1, .int y2].toArray below meth c H locs 0 0 (MQ below (th_Q D cT T (kd q) (th_R T (some (.inl (0, 1)))) [2, 56, 57]) [.ref a0, .int y1, .int y2].toArray s 0 0 (th_A T [2, 56, 57])) (F0 m 83 ls []) := by
    intro n
    induction n with
    | zero => intro H locs ls v83_3 v83_4 iv83_3 iv83_4 hH hS hl hn; exact absurd hn (Nat.not_lt_zero _)
    | succ n ih83 =>
      intro H locs ls v83_3 v83_4 iv83_3 iv83_4 hH hS hl hn83
      have J171 : ∀ (H : Heap) (locs : List Loc) (ls : Array Slot) (w171_0 : Int32), IV w171_0 4 4 → IV v83_4 0 1600 → IV y1 4 4 → th_H D cT T (kd q) H → va_S (th_A T [2, 56, 57]) s.heap H locs → lv_has ls 7 [(0, .ref a0), (1, .int y1), (2, .int y2), (4, .int v83_4)] → W p l e (rmk 52 1324) s m [.ref a0, .int y1, .int y2].toArray below meth c H locs 0 0 (MQ below (th_Q D cT T (kd q) (th_R T (some (.inl (0, 1)))) [2, 56, 57]) [.ref a0, .int y1, .int y2].toArray s 0 0 (th_A T [2, 56, 57])) (F0 m 171 ls [.int w171_0]) := by
        intro H locs ls w171_0 iw171_0 f171_v83_4 f171_y1 hH hS hl
        refine lv_istore_n (lv' := [(3, .int w171_0), (0, .ref a0), (1, .int y1), (2, .int y2), (4, .int v83_4)]) hx hb dX6_climb_171 rfl hl (by decide) rfl (fun ls hl => ?_)
        refine th_iinc S dX6_climb_172 hl (k := 4) rfl (by decide) f171_v83_4 (by decide) (fun x1 ls ex1 ix1 hl => ?_)
        have hl : lv_has ls 7 [(4, .int x1), (3, .int w171_0), (0, .ref a0), (1, .int y1), (2, .int y2)] := hl
        have ix1 : IV x1 1 1601 := ix1
        refine lv_goto (tgt := 83) hx hb dX6_climb_175 (by decide) ?_
        exact ih83 H locs ls w171_0 x1 iw171_0 (iv_w ix1 (by decide)) hH hS (lv_sub hl [2, 3, 4, 1, 0] rfl) (th_up iv83_4 ex1 (by decide) hn83)
      have J120 : ∀ (H : Heap) (locs : List Loc) (ls : Array Slot), th_H D cT T (kd q) H → va_S (th_A T [2, 56, 57]) s.heap H locs → lv_has ls 7 [] → W p l e (rmk 52 1324) s m [.ref a0, .int y1, .int y2].toArray below meth c H locs 0 0 (MQ below (th_Q D cT T (kd q) (th_R T (some (.inl (0, 1)))) [2, 56, 57]) [.ref a0, .int y1, .int y2].toArray s 0 0 (th_A T [2, 56, 57])) (F0 m 120 ls []) := by
        intro H locs ls hH hS hl
        refine lv_iconst (v := 1) hx hb dX6_climb_120 (by decide) ?_
        exact th_zret S hK hH hS hr hlocks (iv_w (iv_c (by decide) : IV 1 1 1) (by decide)) (th_R.i (iv_w (iv_c (by decide) : IV 1 1 1) (by decide))) dX6_climb_121
      refine lv_iload hx hb dX6_climb_83 (lv_at hl 4 rfl) ?_
      refine lv_aload_n hx hb dX6_climb_85 rfl (lv_at hl 0 rfl) ?_
      refine th_get S hK hH inG6 t0 kd_2 rfl 0 (by decide) gm_339 rfl rfl dX6_climb_86 (fun v2 hv2 fv2 => ?_)
      obtain ⟨rf3, rfl, trf3⟩ := th_V.ref hv2
      refine th_get S hK hH inG8 trf3 kd_1 rfl 5 (by decide) gm_159 rfl rfl dX6_climb_89 (fun v4 hv4 fv4 => ?_)
      obtain ⟨x5, rfl, ix5⟩ := th_V.int hv4
      refine lv_icmp_ge (tgt := 178) hx hb dX6_climb_92 (by decide) (fun c6 => ?_) (fun c6 => ?_)
      · skip
        refine lv_iconst (v := 1) hx hb dX6_climb_178 (by decide) ?_
        exact th_zret S hK hH hS hr hlocks (iv_w (iv_c (by decide) : IV 1 1 1) (by decide)) (th_R.i (iv_w (iv_c (by decide) : IV 1 1 1) (by decide))) dX6_climb_179
      · skip
        have ir7 : IV v83_4 0 1600 := iv_uL iv83_4 ix5 (iv_nle c6) (by decide)
        have ir8 : IV x5 1 1601 := iv_uR iv83_4 ix5 (iv_nle c6) (by decide)
        refine lv_aload_n hx hb dX6_climb_95 rfl (lv_at hl 0 rfl) ?_
        refine th_callVi (n := 0) (As := []) S hK hH hS (th_A.sub (by decide)) (m_X6_kind l D cT T q hq a0 t0) gm_708 gm_705 gm_707 gm_5 gm_115 (by decide +kernel) ⟨rfl, rfl, Nat.le_of_ble_eq_true rfl, Nat.le_of_ble_eq_true rfl⟩ t0 kd_2 rfl rfl hl.1 rfl (Nat.le_of_ble_eq_true rfl) dX6_climb_96 ⟨Nat.zero_le _, Nat.zero_le _⟩ (fun x9 H locs ix9 hH hS hF1 => ?_)
        refine lv_istore (lv' := [(5, .int x9), (0, .ref a0), (1, .int y1), (2, .int y2), (3, .int v83_3), (4, .int v83_4)]) hx hb dX6_climb_99 hl (by decide) rfl (fun ls hl => ?_)
        refine lv_iload hx hb dX6_climb_101 (lv_at hl 0 rfl) ?_
        refine th_callSi (n := 1) (As := [.int x9]) S hK hH hS (th_A.sub (by decide)) (m_X6_levelOf l D cT T q hq (x9) ix9) gm_773 gm_771 gm_772 gm_115 (by decide +kernel) ⟨rfl, rfl, Nat.le_of_ble_eq_true rfl, Nat.le_of_ble_eq_true rfl⟩ rfl hl.1 rfl (Nat.le_of_ble_eq_true rfl) dX6_climb_103 ⟨Nat.zero_le _, Nat.zero_le _⟩ (fun x10 H locs ix10 hH hS hF1 => ?_)
        refine lv_istore (lv' := [(6, .int x10), (5, .int x9), (0, .ref a0), (1, .int y1), (2, .int y2), (3, .int v83_3), (4, .int v83_4)]) hx hb dX6_climb_106 hl (by decide) rfl (fun ls hl => ?_)
        refine lv_iload hx hb dX6_climb_108 (lv_at hl 0 rfl) ?_
        refine lv_iload_n hx hb dX6_climb_110 rfl (lv_at hl 3 rfl) ?_
        refine lv_icmp_lt (tgt := 120) hx hb dX6_climb_111 (by decide) (fun c11 => ?_) (fun c11 => ?_)
        · skip
          exact J120 H locs ls  hH hS (lv_sub hl [] rfl)
        · skip
          have ir12 : IV x10 4 4 := iv_vR j1 ix10 (iv_nlt c11) (by decide)
          have ir13 : IV y1 4 4 := iv_vL j1 ix10 (iv_nlt c11) (by decide)
          refine lv_iload hx hb dX6_climb_114 (lv_at hl 0 rfl) ?_
          refine lv_iload_n hx hb dX6_climb_116 rfl (lv_at hl 5 rfl) ?_
          refine lv_icmp_le (tgt := 122) hx hb dX6_climb_117 (by decide) (fun c14 => ?_) (fun c14 => ?_)
          · skip
            refine lv_aload_n hx hb dX6_climb_122 rfl (lv_at hl 2 rfl) ?_
            refine lv_dup hx hb dX6_climb_123 rfl ?_
            refine th_get S hK hH inG6 t0 kd_2 rfl 2 (by decide) gm_342 rfl rfl dX6_climb_124 (fun v15 hv15 fv15 => ?_)
            obtain ⟨x16, rfl, ix16⟩ := th_V.int hv15
            refine lv_iconst (v := 1) hx hb dX6_climb_127 (by decide) ?_
            refine lv_iadd hx hb dX6_climb_128 ?_
            refine lv_topi (fun x17 ex17 => ?_)
            have ix17 := iv_top x17
            refine th_put S hK hH hS ⟨2, by decide, t0⟩ inG6 tyX6 tyX6_ok nmX6 t0 kd_2 rfl 2 (by decide) gm_342 rfl rfl rfl rfl (th_iv ix17) (fun _ _ => trivial) (ty := .int) (by decide +kernel) rfl rfl dX6_climb_129 (fun H locs hH hS hq1 hp1 => ?_)
            have f18 := hp1.1
            refine lv_aload_n hx hb dX6_climb_132 rfl (lv_at hl 2 rfl) ?_
            refine lv_iload hx hb dX6_climb_133 (lv_at hl 0 rfl) ?_
            refine lv_iconst (v := 1) hx hb dX6_climb_135 (by decide) ?_
            refine lv_iadd hx hb dX6_climb_136 ?_
            refine lv_topi (fun x19 ex19 => ?_)
            have ix19 : IV x19 5 5 := by rw [ex19]; exact iv_add ir12 (iv_c (by decide) : IV 1 1 1) (by decide)
            refine lv_iload_n hx hb dX6_climb_137 rfl (lv_at hl 4 rfl) ?_
            refine th_callVi (n := 2) (As := [.int x19, .int y2]) S hK hH hS (th_A.sub (by decide)) (m_X6_climb_d0l5 l D cT T q hq a0 t0 (x19) ix19 (y2) j2) gm_762 gm_759 gm_761 gm_15 gm_115 (by decide +kernel) ⟨rfl, rfl, Nat.le_of_ble_eq_true rfl, Nat.le_of_ble_eq_true rfl⟩ t0 kd_2 rfl rfl hl.1 rfl (Nat.le_of_ble_eq_true rfl) dX6_climb_138 ⟨Nat.zero_le _, Nat.zero_le _⟩ (fun x20 H locs ix20 hH hS hF1 => ?_)
            refine lv_if_ne (tgt := 146) hx hb dX6_climb_141 (by decide) (fun c21 => ?_) (fun c21 => ?_)
            · skip
              have ir22 : IV x20 1 1 := iv_cutL ix20 (iv_c (by decide) : IV 0 0 0) c21 (by decide)
              refine lv_aload_n hx hb dX6_climb_146 rfl (lv_at hl 2 rfl) ?_
              refine th_get S hK hH inG6 t0 kd_2 rfl 1 (by decide) gm_340 rfl rfl dX6_climb_147 (fun v23 hv23 fv23 => ?_)
              obtain ⟨rf24, rfl, trf24⟩ := th_V.ref hv23
              refine th_get S hK hH inG4 trf24 kd_46 rfl 9 (by decide) gm_269 rfl rfl dX6_climb_150 (fun v25 hv25 fv25 => ?_)
              obtain ⟨rf26, rfl, trf26⟩ := th_V.ref hv25
              refine lv_iload hx hb dX6_climb_153 (lv_at hl 1 rfl) ?_
              refine lv_ineg hx hb dX6_climb_155 ?_
              refine lv_topi (fun x27 ex27 => ?_)
              have ix27 := iv_top x27
              refine th_callVv (n := 1) (As := [.int x27]) S hK hH hS (th_A.sub (by decide)) (m_X2_add l D cT T q hq rf26 trf26 (x27) ix27) gm_766 gm_763 gm_764 gm_765 gm_117 (by decide +kernel) ⟨rfl, rfl, Nat.le_of_ble_eq_true rfl, Nat.le_of_ble_eq_true rfl⟩ trf26 kd_56 rfl rfl hl.1 rfl (Nat.le_of_ble_eq_true rfl) dX6_climb_156 ⟨Nat.zero_le _, Nat.zero_le _⟩ (fun H locs hH hS hF1 => ?_)
              have f28 := fv23.kept (hF1 _ fv23.lt (th_off t0 (by decide)))
              have f29 := fv25.kept (hF1 _ fv25.lt (th_off trf24 (by decide)))
              refine lv_iload hx hb dX6_climb_159 (lv_at hl 0 rfl) ?_
              refine lv_iconst (v := 2) hx hb dX6_climb_161 (by decide) ?_
              refine lv_icmp_ne (tgt := 169) hx hb dX6_climb_162 (by decide) (fun c30 => ?_) (fun c30 => ?_)
              · skip
                refine lv_iload hx hb dX6_climb_169 (lv_at hl 0 rfl) ?_
                exact J171 H locs ls x10 ir12 ir7 ir13 hH hS (lv_sub hl [2, 3, 4, 6] rfl)
              · skip
                exfalso
                have z1 := congrArg Int32.toInt c30
                have z2 := (ir12).1
                have z3 := (ir12).2
                have z4 := ((iv_c (by decide) : IV 2 2 2)).1
                have z5 := ((iv_c (by decide) : IV 2 2 2)).2
                omega
            · skip
              have ir31 : IV x20 0 0 := iv_eL c21 (iv_c (by decide) : IV 0 0 0)
              refine lv_iconst (v := 0) hx hb dX6_climb_144 (by decide) ?_
              exact th_zret S hK hH hS hr hlocks (iv_w (iv_c (by decide) : IV 0 0 0) (by decide)) (th_R.i (iv_w (iv_c (by decide) : IV 0 0 0) (by decide))) dX6_climb_145
          · skip
            exfalso
            have z1 := iv_nle c14
            have z2 := (iv83_3).1
            have z3 := (iv83_3).2
            have z4 := (ir12).1
            have z5 := (ir12).2
            omega
  have J80 : ∀ (H : Heap) (locs : List Loc) (ls : Array Slot) (v80_3 : Int32), IV v80_3 4 4 → th_H D cT T (kd q) H → va_S (th_A T [2, 56, 57]) s.heap H locs → lv_has ls 7 [(0, .ref a0), (1, .int y1), (2, .int y2), (3, .int v80_3)] → W p l e (rmk 52 1324) s m [.ref a0, .int y1, .int y2].toArray below meth c H locs 0 0 (MQ below (th_Q D cT T (kd q) (th_R T (some (.inl (0, 1)))) [2, 56, 57]) [.ref a0, .int y1, .int y2].toArray s 0 0 (th_A T [2, 56, 57])) (F0 m 80 ls []) := by
    intro H locs ls v80_3 iv80_3 hH hS hl
    refine lv_iconst (v := 0) hx hb dX6_climb_80 (by decide) ?_
    refine lv_istore (lv' := [(4, .int 0), (0, .ref a0), (1, .int y1), (2, .int y2), (3, .int v80_3)]) hx hb dX6_climb_81 hl (by decide) rfl (fun ls hl => ?_)
    exact J83 ((1601 + 1 - Int32.toInt 0).toNat + 1) H locs ls v80_3 0 iv80_3 (iv_w (iv_c (by decide) : IV 0 0 0) (by decide)) hH hS (lv_sub hl [1, 2, 3, 4, 0] rfl) (Nat.lt_succ_self _)
  have J70 : ∀ (H : Heap) (locs : List Loc) (ls : Array Slot) (v70_3 : Int32), IV v70_3 4 4 → th_H D cT T (kd q) H → va_S (th_A T [2, 56, 57]) s.heap H locs → lv_has ls 7 [(0, .ref a0), (1, .int y1), (2, .int y2), (3, .int v70_3)] → W p l e (rmk 52 1324) s m [.ref a0, .int y1, .int y2].toArray below meth c H locs 0 0 (MQ below (th_Q D cT T (kd q) (th_R T (some (.inl (0, 1)))) [2, 56, 57]) [.ref a0, .int y1, .int y2].toArray s 0 0 (th_A T [2, 56, 57])) (F0 m 70 ls []) := by
    intro H locs ls v70_3 iv70_3 hH hS hl
    refine lv_aload_n hx hb dX6_climb_70 rfl (lv_at hl 0 rfl) ?_
    refine lv_iload_n hx hb dX6_climb_71 rfl (lv_at hl 2 rfl) ?_
    refine th_callVi (n := 1) (As := [.int y2]) S hK hH hS (th_A.sub (by decide)) (m_X6_unit_d0 l D cT T q hq a0 t0 (y2) j2) gm_770 gm_767 gm_769 gm_16 gm_115 (by decide +kernel) ⟨rfl, rfl, Nat.le_of_ble_eq_true rfl, Nat.le_of_ble_eq_true rfl⟩ t0 kd_2 rfl rfl hl.1 rfl (Nat.le_of_ble_eq_true rfl) dX6_climb_72 ⟨Nat.zero_le _, Nat.zero_le _⟩ (fun x32 H locs ix32 hH hS hF1 => ?_)
    refine lv_if_ne (tgt := 80) hx hb dX6_climb_75 (by decide) (fun c33 => ?_) (fun c33 => ?_)
    · skip
      have ir34 : IV x32 1 1 := iv_cutL ix32 (iv_c (by decide) : IV 0 0 0) c33 (by decide)
      exact J80 H locs ls v70_3 iv70_3 hH hS (lv_sub hl [0, 1, 2, 3] rfl)
    · skip
      have ir35 : IV x32 0 0 := iv_eL c33 (iv_c (by decide) : IV 0 0 0)
      refine lv_iconst (v := 0) hx hb dX6_climb_78 (by decide) ?_
      exact th_zret S hK hH hS hr hlocks (iv_w (iv_c (by decide) : IV 0 0 0) (by decide)) (th_R.i (iv_w (iv_c (by decide) : IV 0 0 0) (by decide))) dX6_climb_79
  have J0 : ∀ (H : Heap) (locs : List Loc) (ls : Array Slot), th_H D cT T (kd q) H → va_S (th_A T [2, 56, 57]) s.heap H locs → lv_has ls 7 [(0, .ref a0), (1, .int y1), (2, .int y2)] → W p l e (rmk 52 1324) s m [.ref a0, .int y1, .int y2].toArray below meth c H locs 0 0 (MQ below (th_Q D cT T (kd q) (th_R T (some (.inl (0, 1)))) [2, 56, 57]) [.ref a0, .int y1, .int y2].toArray s 0 0 (th_A T [2, 56, 57])) (F0 m 0 ls []) := by
    intro H locs ls hH hS hl
    refine lv_iconst (v := 4) hx hb dX6_climb_0 (by decide) ?_
    refine lv_istore_n (lv' := [(3, .int 4), (0, .ref a0), (1, .int y1), (2, .int y2)]) hx hb dX6_climb_1 rfl hl (by decide) rfl (fun ls hl => ?_)
    refine lv_aload_n hx hb dX6_climb_2 rfl (lv_at hl 1 rfl) ?_
    refine th_callVi (n := 0) (As := []) S hK hH hS (th_A.sub (by decide)) (m_X6_kind l D cT T q hq a0 t0) gm_708 gm_705 gm_707 gm_5 gm_115 (by decide +kernel) ⟨rfl, rfl, Nat.le_of_ble_eq_true rfl, Nat.le_of_ble_eq_true rfl⟩ t0 kd_2 rfl rfl hl.1 rfl (Nat.le_of_ble_eq_true rfl) dX6_climb_3 ⟨Nat.zero_le _, Nat.zero_le _⟩ (fun x36 H locs ix36 hH hS hF1 => ?_)
    refine lv_sipush (v := 149) hx hb dX6_climb_6 (by decide) ?_
    refine lv_icmp_ne (tgt := 70) hx hb dX6_climb_9 (by decide) (fun c37 => ?_) (fun c37 => ?_)
    · skip
      exact J70 H locs ls 4 (iv_c (by decide) : IV 4 4 4) hH hS (lv_sub hl [1, 2, 3, 0] rfl)
    · skip
      have ir38 : IV x36 149 149 := iv_eL c37 (iv_c (by decide) : IV 149 149 149)
      refine lv_iload_n hx hb dX6_climb_12 rfl (lv_at hl 2 rfl) ?_
      refine lv_iconst (v := 2) hx hb dX6_climb_13 (by decide) ?_
      refine lv_icmp_gt (tgt := 70) hx hb dX6_climb_14 (by decide) (fun c39 => ?_) (fun c39 => ?_)
      · skip
        exact J70 H locs ls 4 (iv_c (by decide) : IV 4 4 4) hH hS (lv_sub hl [1, 2, 3, 0] rfl)
      · skip
        exfalso
        have z1 := iv_nlt c39
        have z2 := ((iv_c (by decide) : IV 2 2 2)).1
        have z3 := ((iv_c (by decide) : IV 2 2 2)).2
        have z4 := (j1).1
        have z5 := (j1).2
        omega
  exact J0 s.heap [] ls hH va_S.rf hl

set_option maxRecDepth 100000 in
theorem m_X6_climb_d0l3 (l : Launch) (D : va_G) (cT : Nat → ClassId) (T : Nat → Option Nat) (q : Nat → Int) (hq : qok q) (a0 : Nat) (t0 : T a0 = some 2) (y1 : Int32) (j1 : IV y1 3 5) (y2 : Int32) (j2 : IV y2 0 0) : th_Met l D cT T (kd q) yX6_climb cX6_climb 7 (some .boolean) (rmk 53 1350) [.ref a0, .int y1, .int y2] (th_R T (some (.inl (0, 1)))) [2, 56, 57] := by
  refine th_start (by decide) (Nat.le_of_ble_eq_true rfl) ?_
  intro p e s m below meth c ls S hK hH hr hlocks hnm hl
  have hx := S.1
  have hb := S.2.1
  have hl : lv_has ls 7 [(0, .ref a0), (1, .int y1), (2, .int y2)] := hl
  have J83 : ∀ (n : Nat) (H : Heap) (locs : List Loc) (ls : Array Slot) (v83_3 : Int32) (v83_4 : Int32), IV v83_3 3 4 → IV v83_4 0 1601 → th_H D cT T (kd q) H → va_S (th_A T [2, 56, 57]) s.heap H locs → lv_has ls 7 [(0, .ref a0), (1, .int y1), (2, .int y2), (3, .int v83_3), (4, .int v83_4)] → (1601 + 1 - v83_4.toInt).toNat < n → W p l e (rmk 53 1350) s m [.ref a0, .int y1, .int y2].toArray below meth c H locs 0 0 (MQ below (th_Q D cT T (kd q) (th_R T (some (.inl (0, 1)))) [2, 56, 57]) [.ref a0, .int y1, .int y2].toArray s 0 0 (th_A T [2, 56, 57])) (F0 m 83 ls []) := by
    intro n
    induction n with
    | zero => intro H locs ls v83_3 v83_4 iv83_3 iv83_4 hH hS hl hn; exact absurd hn (Nat.not_lt_zero _)
    | succ n ih83 =>
      intro H locs ls v83_3 v83_4 iv83_3 iv83_4 hH hS hl hn83
      have J171 : ∀ (H : Heap) (locs : List Loc) (ls : Array Slot) (w171_0 : Int32), IV w171_0 3 4 → IV v83_4 0 1600 → IV y1 3 4 → th_H D cT T (kd q) H → va_S (th_A T [2, 56, 57]) s.heap H locs → lv_has ls 7 [(0, .ref a0), (1, .int y1), (2, .int y2), (4, .int v83_4)] → W p l e (rmk 53 1350) s m [.ref a0, .int y1, .int y2].toArray below meth c H locs 0 0 (MQ below (th_Q D cT T (kd q) (th_R T (some (.inl (0, 1)))) [2, 56, 57]) [.ref a0, .int y1, .int y2].toArray s 0 0 (th_A T [2, 56, 57])) (F0 m 171 ls [.int w171_0]) := by
        intro H locs ls w171_0 iw171_0 f171_v83_4 f171_y1 hH hS hl
        refine lv_istore_n (lv' := [(3, .int w171_0), (0, .ref a0), (1, .int y1), (2, .int y2), (4, .int v83_4)]) hx hb dX6_climb_171 rfl hl (by decide) rfl (fun ls hl => ?_)
        refine th_iinc S dX6_climb_172 hl (k := 4) rfl (by decide) f171_v83_4 (by decide) (fun x1 ls ex1 ix1 hl => ?_)
        have hl : lv_has ls 7 [(4, .int x1), (3, .int w171_0), (0, .ref a0), (1, .int y1), (2, .int y2)] := hl
        have ix1 : IV x1 1 1601 := ix1
        refine lv_goto (tgt := 83) hx hb dX6_climb_175 (by decide) ?_
        exact ih83 H locs ls w171_0 x1 iw171_0 (iv_w ix1 (by decide)) hH hS (lv_sub hl [2, 3, 4, 1, 0] rfl) (th_up iv83_4 ex1 (by decide) hn83)
      have J120 : ∀ (H : Heap) (locs : List Loc) (ls : Array Slot), th_H D cT T (kd q) H → va_S (th_A T [2, 56, 57]) s.heap H locs → lv_has ls 7 [] → W p l e (rmk 53 1350) s m [.ref a0, .int y1, .int y2].toArray below meth c H locs 0 0 (MQ below (th_Q D cT T (kd q) (th_R T (some (.inl (0, 1)))) [2, 56, 57]) [.ref a0, .int y1, .int y2].toArray s 0 0 (th_A T [2, 56, 57])) (F0 m 120 ls []) := by
        intro H locs ls hH hS hl
        refine lv_iconst (v := 1) hx hb dX6_climb_120 (by decide) ?_
        exact th_zret S hK hH hS hr hlocks (iv_w (iv_c (by decide) : IV 1 1 1) (by decide)) (th_R.i (iv_w (iv_c (by decide) : IV 1 1 1) (by decide))) dX6_climb_121
      refine lv_iload hx hb dX6_climb_83 (lv_at hl 4 rfl) ?_
      refine lv_aload_n hx hb dX6_climb_85 rfl (lv_at hl 0 rfl) ?_
      refine th_get S hK hH inG6 t0 kd_2 rfl 0 (by decide) gm_339 rfl rfl dX6_climb_86 (fun v2 hv2 fv2 => ?_)
      obtain ⟨rf3, rfl, trf3⟩ := th_V.ref hv2
      refine th_get S hK hH inG8 trf3 kd_1 rfl 5 (by decide) gm_159 rfl rfl dX6_climb_89 (fun v4 hv4 fv4 => ?_)
      obtain ⟨x5, rfl, ix5⟩ := th_V.int hv4
      refine lv_icmp_ge (tgt := 178) hx hb dX6_climb_92 (by decide) (fun c6 => ?_) (fun c6 => ?_)
      · skip
        refine lv_iconst (v := 1) hx hb dX6_climb_178 (by decide) ?_
        exact th_zret S hK hH hS hr hlocks (iv_w (iv_c (by decide) : IV 1 1 1) (by decide)) (th_R.i (iv_w (iv_c (by decide) : IV 1 1 1) (by decide))) dX6_climb_179
      · skip
        have ir7 : IV v83_4 0 1600 := iv_uL iv83_4 ix5 (iv_nle c6) (by decide)
        have ir8 : IV x5 1 1601 := iv_uR iv83_4 ix5 (iv_nle c6) (by decide)
        refine lv_aload_n hx hb dX6_climb_95 rfl (lv_at hl 0 rfl) ?_
        refine th_callVi (n := 0) (As := []) S hK hH hS (th_A.sub (by decide)) (m_X6_kind l D cT T q hq a0 t0) gm_708 gm_705 gm_707 gm_5 gm_115 (by decide +kernel) ⟨rfl, rfl, Nat.le_of_ble_eq_true rfl, Nat.le_of_ble_eq_true rfl⟩ t0 kd_2 rfl rfl hl.1 rfl (Nat.le_of_ble_eq_true rfl) dX6_climb_96 ⟨Nat.zero_le _, Nat.zero_le _⟩ (fun x9 H locs ix9 hH hS hF1 => ?_)
        refine lv_istore (lv' := [(5, .int x9), (0, .ref a0), (1, .int y1), (2, .int y2), (3, .int v83_3), (4, .int v83_4)]) hx hb dX6_climb_99 hl (by decide) rfl (fun ls hl => ?_)
        refine lv_iload hx hb dX6_climb_101 (lv_at hl 0 rfl) ?_
        refine th_callSi (n := 1) (As := [.int x9]) S hK hH hS (th_A.sub (by decide)) (m_X6_levelOf l D cT T q hq (x9) ix9) gm_773 gm_771 gm_772 gm_115 (by decide +kernel) ⟨rfl, rfl, Nat.le_of_ble_eq_true rfl, Nat.le_of_ble_eq_true rfl⟩ rfl hl.1 rfl (Nat.le_of_ble_eq_true rfl) dX6_climb_103 ⟨Nat.zero_le _, Nat.zero_le _⟩ (fun x10 H locs ix10 hH hS hF1 => ?_)
        refine lv_istore (lv' := [(6, .int x10), (5, .int x9), (0, .ref a0), (1, .int y1), (2, .int y2), (3, .int v83_3), (4, .int v83_4)]) hx hb dX6_climb_106 hl (by decide) rfl (fun ls hl => ?_)
        refine lv_iload hx hb dX6_climb_108 (lv_at hl 0 rfl) ?_
        refine lv_iload_n hx hb dX6_climb_110 rfl (lv_at hl 3 rfl) ?_
        refine lv_icmp_lt (tgt := 120) hx hb dX6_climb_111 (by decide) (fun c11 => ?_) (fun c11 => ?_)
        · skip
          exact J120 H locs ls  hH hS (lv_sub hl [] rfl)
        · skip
          have ir12 : IV x10 3 4 := iv_vR j1 ix10 (iv_nlt c11) (by decide)
          have ir13 : IV y1 3 4 := iv_vL j1 ix10 (iv_nlt c11) (by decide)
          refine lv_iload hx hb dX6_climb_114 (lv_at hl 0 rfl) ?_
          refine lv_iload_n hx hb dX6_climb_116 rfl (lv_at hl 5 rfl) ?_
          refine lv_icmp_le (tgt := 122) hx hb dX6_climb_117 (by decide) (fun c14 => ?_) (fun c14 => ?_)
          · skip
            refine lv_aload_n hx hb dX6_climb_122 rfl (lv_at hl 2 rfl) ?_
            refine lv_dup hx hb dX6_climb_123 rfl ?_
            refine th_get S hK hH inG6 t0 kd_2 rfl 2 (by decide) gm_342 rfl rfl dX6_climb_124 (fun v15 hv15 fv15 => ?_)
            obtain ⟨x16, rfl, ix16⟩ := th_V.int hv15
            refine lv_iconst (v := 1) hx hb dX6_climb_127 (by decide) ?_
            refine lv_iadd hx hb dX6_climb_128 ?_
            refine lv_topi (fun x17 ex17 => ?_)
            have ix17 := iv_top x17
            refine th_put S hK hH hS ⟨2, by decide, t0⟩ inG6 tyX6 tyX6_ok nmX6 t0 kd_2 rfl 2 (by decide) gm_342 rfl rfl rfl rfl (th_iv ix17) (fun _ _ => trivial) (ty := .int) (by decide +kernel) rfl rfl dX6_climb_129 (fun H locs hH hS hq1 hp1 => ?_)
            have f18 := hp1.1
            refine lv_aload_n hx hb dX6_climb_132 rfl (lv_at hl 2 rfl) ?_
            refine lv_iload hx hb dX6_climb_133 (lv_at hl 0 rfl) ?_
            refine lv_iconst (v := 1) hx hb dX6_climb_135 (by decide) ?_
            refine lv_iadd hx hb dX6_climb_136 ?_
            refine lv_topi (fun x19 ex19 => ?_)
            have ix19 : IV x19 4 5 := by rw [ex19]; exact iv_add ir12 (iv_c (by decide) : IV 1 1 1) (by decide)
            refine lv_iload_n hx hb dX6_climb_137 rfl (lv_at hl 4 rfl) ?_
            refine th_callVi (n := 2) (As := [.int x19, .int y2]) S hK hH hS (th_A.sub (by decide)) (m_X6_climb_d0l4 l D cT T q hq a0 t0 (x19) ix19 (y2) j2) gm_762 gm_759 gm_761 gm_15 gm_115 (by decide +kernel) ⟨rfl, rfl, Nat.le_of_ble_eq_true rfl, Nat.le_of_ble_eq_true rfl⟩ t0 kd_2 rfl rfl hl.1 rfl (Nat.le_of_ble_eq_true rfl) dX6_climb_138 ⟨Nat.zero_le _, Nat.zero_le _⟩ (fun x20 H locs ix20 hH hS hF1 => ?_)
            refine lv_if_ne (tgt := 146) hx hb dX6_climb_141 (by decide) (fun c21 => ?_) (fun c21 => ?_)
            · skip
              have ir22 : IV x20 1 1 := iv_cutL ix20 (iv_c (by decide) : IV 0 0 0) c21 (by decide)
              refine lv_aload_n hx hb dX6_climb_146 rfl (lv_at hl 2 rfl) ?_
              refine th_get S hK hH inG6 t0 kd_2 rfl 1 (by decide) gm_340 rfl rfl dX6_climb_147 (fun v23 hv23 fv23 => ?_)
              obtain ⟨rf24, rfl, trf24⟩ := th_V.ref hv23
              refine th_get S hK hH inG4 trf24 kd_46 rfl 9 (by decide) gm_269 rfl rfl dX6_climb_150 (fun v25 hv25 fv25 => ?_)
              obtain ⟨rf26, rfl, trf26⟩ := th_V.ref hv25
              refine lv_iload hx hb dX6_climb_153 (lv_at hl 1 rfl) ?_
              refine lv_ineg hx hb dX6_climb_155 ?_
              refine lv_topi (fun x27 ex27 => ?_)
              have ix27 := iv_top x27
              refine th_callVv (n := 1) (As := [.int x27]) S hK hH hS (th_A.sub (by decide)) (m_X2_add l D cT T q hq rf26 trf26 (x27) ix27) gm_766 gm_763 gm_764 gm_765 gm_117 (by decide +kernel) ⟨rfl, rfl, Nat.le_of_ble_eq_true rfl, Nat.le_of_ble_eq_true rfl⟩ trf26 kd_56 rfl rfl hl.1 rfl (Nat.le_of_ble_eq_true rfl) dX6_climb_156 ⟨Nat.zero_le _, Nat.zero_le _⟩ (fun H locs hH hS hF1 => ?_)
              have f28 := fv23.kept (hF1 _ fv23.lt (th_off t0 (by decide)))
              have f29 := fv25.kept (hF1 _ fv25.lt (th_off trf24 (by decide)))
              refine lv_iload hx hb dX6_climb_159 (lv_at hl 0 rfl) ?_
              refine lv_iconst (v := 2) hx hb dX6_climb_161 (by decide) ?_
              refine lv_icmp_ne (tgt := 169) hx hb dX6_climb_162 (by decide) (fun c30 => ?_) (fun c30 => ?_)
              · skip
                refine lv_iload hx hb dX6_climb_169 (lv_at hl 0 rfl) ?_
                exact J171 H locs ls x10 ir12 ir7 ir13 hH hS (lv_sub hl [2, 3, 4, 6] rfl)
              · skip
                exfalso
                have z1 := congrArg Int32.toInt c30
                have z2 := (ir12).1
                have z3 := (ir12).2
                have z4 := ((iv_c (by decide) : IV 2 2 2)).1
                have z5 := ((iv_c (by decide) : IV 2 2 2)).2
                omega
            · skip
              have ir31 : IV x20 0 0 := iv_eL c21 (iv_c (by decide) : IV 0 0 0)
              refine lv_iconst (v := 0) hx hb dX6_climb_144 (by decide) ?_
              exact th_zret S hK hH hS hr hlocks (iv_w (iv_c (by decide) : IV 0 0 0) (by decide)) (th_R.i (iv_w (iv_c (by decide) : IV 0 0 0) (by decide))) dX6_climb_145
          · skip
            have ir32 : IV v83_3 3 3 := iv_uL iv83_3 ir12 (iv_nle c14) (by decide)
            have ir33 : IV x10 4 4 := iv_uR iv83_3 ir12 (iv_nle c14) (by decide)
            exact J120 H locs ls  hH hS (lv_sub hl [] rfl)
  have J80 : ∀ (H : Heap) (locs : List Loc) (ls : Array Slot) (v80_3 : Int32), IV v80_3 4 4 → th_H D cT T (kd q) H → va_S (th_A T [2, 56, 57]) s.heap H locs → lv_has ls 7 [(0, .ref a0), (1, .int y1), (2, .int y2), (3, .int v80_3)] → W p l e (rmk 53 1350) s m [.ref a0, .int y1, .int y2].toArray below meth c H locs 0 0 (MQ below (th_Q D cT T (kd q) (th_R T (some (.inl (0, 1)))) [2, 56, 57]) [.ref a0, .int y1, .int y2].toArray s 0 0 (th_A T [2, 56, 57])) (F0 m 80 ls []) := by
    intro H locs ls v80_3 iv80_3 hH hS hl
    refine lv_iconst (v := 0) hx hb dX6_climb_80 (by decide) ?_
    refine lv_istore (lv' := [(4, .int 0), (0, .ref a0), (1, .int y1), (2, .int y2), (3, .int v80_3)]) hx hb dX6_climb_81 hl (by decide) rfl (fun ls hl => ?_)
    exact J83 ((1601 + 1 - Int32.toInt 0).toNat + 1) H locs ls v80_3 0 (iv_w iv80_3 (by decide)) (iv_w (iv_c (by decide) : IV 0 0 0) (by decide)) hH hS (lv_sub hl [1, 2, 3, 4, 0] rfl) (Nat.lt_succ_self _)
  have J70 : ∀ (H : Heap) (locs : List Loc) (ls : Array Slot) (v70_3 : Int32), IV v70_3 4 4 → th_H D cT T (kd q) H → va_S (th_A T [2, 56, 57]) s.heap H locs → lv_has ls 7 [(0, .ref a0), (1, .int y1), (2, .int y2), (3, .int v70_3)] → W p l e (rmk 53 1350) s m [.ref a0, .int y1, .int y2].toArray below meth c H locs 0 0 (MQ below (th_Q D cT T (kd q) (th_R T (some (.inl (0, 1)))) [2, 56, 57]) [.ref a0, .int y1, .int y2].toArray s 0 0 (th_A T [2, 56, 57])) (F0 m 70 ls []) := by
    intro H locs ls v70_3 iv70_3 hH hS hl
    refine lv_aload_n hx hb dX6_climb_70 rfl (lv_at hl 0 rfl) ?_
    refine lv_iload_n hx hb dX6_climb_71 rfl (lv_at hl 2 rfl) ?_
    refine th_callVi (n := 1) (As := [.int y2]) S hK hH hS (th_A.sub (by decide)) (m_X6_unit_d0 l D cT T q hq a0 t0 (y2) j2) gm_770 gm_767 gm_769 gm_16 gm_115 (by decide +kernel) ⟨rfl, rfl, Nat.le_of_ble_eq_true rfl, Nat.le_of_ble_eq_true rfl⟩ t0 kd_2 rfl rfl hl.1 rfl (Nat.le_of_ble_eq_true rfl) dX6_climb_72 ⟨Nat.zero_le _, Nat.zero_le _⟩ (fun x34 H locs ix34 hH hS hF1 => ?_)
    refine lv_if_ne (tgt := 80) hx hb dX6_climb_75 (by decide) (fun c35 => ?_) (fun c35 => ?_)
    · skip
      have ir36 : IV x34 1 1 := iv_cutL ix34 (iv_c (by decide) : IV 0 0 0) c35 (by decide)
      exact J80 H locs ls v70_3 iv70_3 hH hS (lv_sub hl [0, 1, 2, 3] rfl)
    · skip
      have ir37 : IV x34 0 0 := iv_eL c35 (iv_c (by decide) : IV 0 0 0)
      refine lv_iconst (v := 0) hx hb dX6_climb_78 (by decide) ?_
      exact th_zret S hK hH hS hr hlocks (iv_w (iv_c (by decide) : IV 0 0 0) (by decide)) (th_R.i (iv_w (iv_c (by decide) : IV 0 0 0) (by decide))) dX6_climb_79
  have J0 : ∀ (H : Heap) (locs : List Loc) (ls : Array Slot), th_H D cT T (kd q) H → va_S (th_A T [2, 56, 57]) s.heap H locs → lv_has ls 7 [(0, .ref a0), (1, .int y1), (2, .int y2)] → W p l e (rmk 53 1350) s m [.ref a0, .int y1, .int y2].toArray below meth c H locs 0 0 (MQ below (th_Q D cT T (kd q) (th_R T (some (.inl (0, 1)))) [2, 56, 57]) [.ref a0, .int y1, .int y2].toArray s 0 0 (th_A T [2, 56, 57])) (F0 m 0 ls []) := by
    intro H locs ls hH hS hl
    refine lv_iconst (v := 4) hx hb dX6_climb_0 (by decide) ?_
    refine lv_istore_n (lv' := [(3, .int 4), (0, .ref a0), (1, .int y1), (2, .int y2)]) hx hb dX6_climb_1 rfl hl (by decide) rfl (fun ls hl => ?_)
    refine lv_aload_n hx hb dX6_climb_2 rfl (lv_at hl 1 rfl) ?_
    refine th_callVi (n := 0) (As := []) S hK hH hS (th_A.sub (by decide)) (m_X6_kind l D cT T q hq a0 t0) gm_708 gm_705 gm_707 gm_5 gm_115 (by decide +kernel) ⟨rfl, rfl, Nat.le_of_ble_eq_true rfl, Nat.le_of_ble_eq_true rfl⟩ t0 kd_2 rfl rfl hl.1 rfl (Nat.le_of_ble_eq_true rfl) dX6_climb_3 ⟨Nat.zero_le _, Nat.zero_le _⟩ (fun x38 H locs ix38 hH hS hF1 => ?_)
    refine lv_sipush (v := 149) hx hb dX6_climb_6 (by decide) ?_
    refine lv_icmp_ne (tgt := 70) hx hb dX6_climb_9 (by decide) (fun c39 => ?_) (fun c39 => ?_)
    · skip
      exact J70 H locs ls 4 (iv_c (by decide) : IV 4 4 4) hH hS (lv_sub hl [1, 2, 3, 0] rfl)
    · skip
      have ir40 : IV x38 149 149 := iv_eL c39 (iv_c (by decide) : IV 149 149 149)
      refine lv_iload_n hx hb dX6_climb_12 rfl (lv_at hl 2 rfl) ?_
      refine lv_iconst (v := 2) hx hb dX6_climb_13 (by decide) ?_
      refine lv_icmp_gt (tgt := 70) hx hb dX6_climb_14 (by decide) (fun c41 => ?_) (fun c41 => ?_)
      · skip
        exact J70 H locs ls 4 (iv_c (by decide) : IV 4 4 4) hH hS (lv_sub hl [1, 2, 3, 0] rfl)
      · skip
        exfalso
        have z1 := iv_nlt c41
        have z2 := ((iv_c (by decide) : IV 2 2 2)).1
        have z3 := ((iv_c (by decide) : IV 2 2 2)).2
        have z4 := (j1).1
        have z5 := (j1).2
        omega
  exact J0 s.heap [] ls hH va_S.rf hl

set_option maxRecDepth 100000 in
theorem m_X6_climb_d0l2 (l : Launch) (D : va_G) (cT : Nat → ClassId) (T : Nat → Option Nat) (q : Nat → Int) (hq : qok q) (a0 : Nat) (t0 : T a0 = some 2) (y1 : Int32) (j1 : IV y1 2 5) (y2 : Int32) (j2 : IV y2 0 0) : th_Met l D cT T (kd q) yX6_climb cX6_climb 7 (some .boolean) (rmk 54 1376) [.ref a0, .int y1, .int y2] (th_R T (some (.inl (0, 1)))) [2, 56, 57] := by
  refine th_start (by decide) (Nat.le_of_ble_eq_true rfl) ?_
  intro p e s m below meth c ls S hK hH hr hlocks hnm hl
  have hx := S.1
  have hb := S.2.1
  have hl : lv_has ls 7 [(0, .ref a0), (1, .int y1), (2, .int y2)] := hl
  have J83 : ∀ (n : Nat) (H : Heap) (locs : List Loc) (ls : Array Slot) (v83_3 : Int32) (v83_4 : Int32), IV v83_3 1 4 → IV v83_4 0 1601 → th_H D cT T (kd q) H → va_S (th_A T [2, 56, 57]) s.heap H locs → lv_has ls 7 [(0, .ref a0), (1, .int y1), (2, .int y2), (3, .int v83_3), (4, .int v83_4)] → (1601 + 1 - v83_4.toInt).toNat < n → W p l e (rmk 54 1376) s m [.ref a0, .int y1, .int y2].toArray below meth c H locs 0 0 (MQ below (th_Q D cT T (kd q) (th_R T (some (.inl (0, 1)))) [2, 56, 57]) [.ref a0, .int y1, .int y2].toArray s 0 0 (th_A T [2, 56, 57])) (F0 m 83 ls []) := by
    intro n
    induction n with
    | zero => intro H locs ls v83_3 v83_4 iv83_3 iv83_4 hH hS hl hn; exact absurd hn (Nat.not_lt_zero _)
    | succ n ih83 =>
      intro H locs ls v83_3 v83_4 iv83_3 iv83_4 hH hS hl hn83
      have J171 : ∀ (H : Heap) (locs : List Loc) (ls : Array Slot) (w171_0 : Int32), IV w171_0 3 4 → IV v83_4 0 1600 → IV y1 2 4 → th_H D cT T (kd q) H → va_S (th_A T [2, 56, 57]) s.heap H locs → lv_has ls 7 [(0, .ref a0), (1, .int y1), (2, .int y2), (4, .int v83_4)] → W p l e (rmk 54 1376) s m [.ref a0, .int y1, .int y2].toArray below meth c H locs 0 0 (MQ below (th_Q D cT T (kd q) (th_R T (some (.inl (0, 1)))) [2, 56, 57]) [.ref a0, .int y1, .int y2].toArray s 0 0 (th_A T [2, 56, 57])) (F0 m 171 ls [.int w171_0]) := by
        intro H locs ls w171_0 iw171_0 f171_v83_4 f171_y1 hH hS hl
        refine lv_istore_n (lv' := [(3, .int w171_0), (0, .ref a0), (1, .int y1), (2, .int y2), (4, .int v83_4)]) hx hb dX6_climb_171 rfl hl (by decide) rfl (fun ls hl => ?_)
        refine th_iinc S dX6_climb_172 hl (k := 4) rfl (by decide) f171_v83_4 (by decide) (fun x1 ls ex1 ix1 hl => ?_)
        have hl : lv_has ls 7 [(4, .int x1), (3, .int w171_0), (0, .ref a0), (1, .int y1), (2, .int y2)] := hl
        have ix1 : IV x1 1 1601 := ix1
        refine lv_goto (tgt := 83) hx hb dX6_climb_175 (by decide) ?_
        exact ih83 H locs ls w171_0 x1 (iv_w iw171_0 (by decide)) (iv_w ix1 (by decide)) hH hS (lv_sub hl [2, 3, 4, 1, 0] rfl) (th_up iv83_4 ex1 (by decide) hn83)
      have J171_s0_1 : ∀ (H : Heap) (locs : List Loc) (ls : Array Slot), IV v83_4 0 1600 → IV y1 2 4 → th_H D cT T (kd q) H → va_S (th_A T [2, 56, 57]) s.heap H locs → lv_has ls 7 [(0, .ref a0), (1, .int y1), (2, .int y2), (4, .int v83_4)] → W p l e (rmk 54 1376) s m [.ref a0, .int y1, .int y2].toArray below meth c H locs 0 0 (MQ below (th_Q D cT T (kd q) (th_R T (some (.inl (0, 1)))) [2, 56, 57]) [.ref a0, .int y1, .int y2].toArray s 0 0 (th_A T [2, 56, 57])) (F0 m 171 ls [.int 1]) := by
        intro H locs ls f171_v83_4 f171_y1 hH hS hl
        refine lv_istore_n (lv' := [(3, .int 1), (0, .ref a0), (1, .int y1), (2, .int y2), (4, .int v83_4)]) hx hb dX6_climb_171 rfl hl (by decide) rfl (fun ls hl => ?_)
        refine th_iinc S dX6_climb_172 hl (k := 4) rfl (by decide) f171_v83_4 (by decide) (fun x2 ls ex2 ix2 hl => ?_)
        have hl : lv_has ls 7 [(4, .int x2), (3, .int 1), (0, .ref a0), (1, .int y1), (2, .int y2)] := hl
        have ix2 : IV x2 1 1601 := ix2
        refine lv_goto (tgt := 83) hx hb dX6_climb_175 (by decide) ?_
        exact ih83 H locs ls 1 x2 (iv_w (iv_c (by decide) : IV 1 1 1) (by decide)) (iv_w ix2 (by decide)) hH hS (lv_sub hl [2, 3, 4, 1, 0] rfl) (th_up iv83_4 ex2 (by decide) hn83)
      have J120 : ∀ (H : Heap) (locs : List Loc) (ls : Array Slot), th_H D cT T (kd q) H → va_S (th_A T [2, 56, 57]) s.heap H locs → lv_has ls 7 [] → W p l e (rmk 54 1376) s m [.ref a0, .int y1, .int y2].toArray below meth c H locs 0 0 (MQ below (th_Q D cT T (kd q) (th_R T (some (.inl (0, 1)))) [2, 56, 57]) [.ref a0, .int y1, .int y2].toArray s 0 0 (th_A T [2, 56, 57])) (F0 m 120 ls []) := by
        intro H locs ls hH hS hl
        refine lv_iconst (v := 1) hx hb dX6_climb_120 (by decide) ?_
        exact th_zret S hK hH hS hr hlocks (iv_w (iv_c (by decide) : IV 1 1 1) (by decide)) (th_R.i (iv_w (iv_c (by decide) : IV 1 1 1) (by decide))) dX6_climb_121
      refine lv_iload hx hb dX6_climb_83 (lv_at hl 4 rfl) ?_
      refine lv_aload_n hx hb dX6_climb_85 rfl (lv_at hl 0 rfl) ?_
      refine th_get S hK hH inG6 t0 kd_2 rfl 0 (by decide) gm_339 rfl rfl dX6_climb_86 (fun v3 hv3 fv3 => ?_)
      obtain ⟨rf4, rfl, trf4⟩ := th_V.ref hv3
      refine th_get S hK hH inG8 trf4 kd_1 rfl 5 (by decide) gm_159 rfl rfl dX6_climb_89 (fun v5 hv5 fv5 => ?_)
      obtain ⟨x6, rfl, ix6⟩ := th_V.int hv5
      refine lv_icmp_ge (tgt := 178) hx hb dX6_climb_92 (by decide) (fun c7 => ?_) (fun c7 => ?_)
      · skip
        refine lv_iconst (v := 1) hx hb dX6_climb_178 (by decide) ?_
        exact th_zret S hK hH hS hr hlocks (iv_w (iv_c (by decide) : IV 1 1 1) (by decide)) (th_R.i (iv_w (iv_c (by decide) : IV 1 1 1) (by decide))) dX6_climb_179
      · skip
        have ir8 : IV v83_4 0 1600 := iv_uL iv83_4 ix6 (iv_nle c7) (by decide)
        have ir9 : IV x6 1 1601 := iv_uR iv83_4 ix6 (iv_nle c7) (by decide)
        refine lv_aload_n hx hb dX6_climb_95 rfl (lv_at hl 0 rfl) ?_
        refine th_callVi (n := 0) (As := []) S hK hH hS (th_A.sub (by decide)) (m_X6_kind l D cT T q hq a0 t0) gm_708 gm_705 gm_707 gm_5 gm_115 (by decide +kernel) ⟨rfl, rfl, Nat.le_of_ble_eq_true rfl, Nat.le_of_ble_eq_true rfl⟩ t0 kd_2 rfl rfl hl.1 rfl (Nat.le_of_ble_eq_true rfl) dX6_climb_96 ⟨Nat.zero_le _, Nat.zero_le _⟩ (fun x10 H locs ix10 hH hS hF1 => ?_)
        refine lv_istore (lv' := [(5, .int x10), (0, .ref a0), (1, .int y1), (2, .int y2), (3, .int v83_3), (4, .int v83_4)]) hx hb dX6_climb_99 hl (by decide) rfl (fun ls hl => ?_)
        refine lv_iload hx hb dX6_climb_101 (lv_at hl 0 rfl) ?_
        refine th_callSi (n := 1) (As := [.int x10]) S hK hH hS (th_A.sub (by decide)) (m_X6_levelOf l D cT T q hq (x10) ix10) gm_773 gm_771 gm_772 gm_115 (by decide +kernel) ⟨rfl, rfl, Nat.le_of_ble_eq_true rfl, Nat.le_of_ble_eq_true rfl⟩ rfl hl.1 rfl (Nat.le_of_ble_eq_true rfl) dX6_climb_103 ⟨Nat.zero_le _, Nat.zero_le _⟩ (fun x11 H locs ix11 hH hS hF1 => ?_)
        refine lv_istore (lv' := [(6, .int x11), (5, .int x10), (0, .ref a0), (1, .int y1), (2, .int y2), (3, .int v83_3), (4, .int v83_4)]) hx hb dX6_climb_106 hl (by decide) rfl (fun ls hl => ?_)
        refine lv_iload hx hb dX6_climb_108 (lv_at hl 0 rfl) ?_
        refine lv_iload_n hx hb dX6_climb_110 rfl (lv_at hl 3 rfl) ?_
        refine lv_icmp_lt (tgt := 120) hx hb dX6_climb_111 (by decide) (fun c12 => ?_) (fun c12 => ?_)
        · skip
          exact J120 H locs ls  hH hS (lv_sub hl [] rfl)
        · skip
          have ir13 : IV x11 2 4 := iv_vR j1 ix11 (iv_nlt c12) (by decide)
          have ir14 : IV y1 2 4 := iv_vL j1 ix11 (iv_nlt c12) (by decide)
          refine lv_iload hx hb dX6_climb_114 (lv_at hl 0 rfl) ?_
          refine lv_iload_n hx hb dX6_climb_116 rfl (lv_at hl 5 rfl) ?_
          refine lv_icmp_le (tgt := 122) hx hb dX6_climb_117 (by decide) (fun c15 => ?_) (fun c15 => ?_)
          · skip
            have ir16 : IV v83_3 2 4 := iv_vR ir13 iv83_3 (iv_le c15) (by decide)
            refine lv_aload_n hx hb dX6_climb_122 rfl (lv_at hl 2 rfl) ?_
            refine lv_dup hx hb dX6_climb_123 rfl ?_
            refine th_get S hK hH inG6 t0 kd_2 rfl 2 (by decide) gm_342 rfl rfl dX6_climb_124 (fun v17 hv17 fv17 => ?_)
            obtain ⟨x18, rfl, ix18⟩ := th_V.int hv17
            refine lv_iconst (v := 1) hx hb dX6_climb_127 (by decide) ?_
            refine lv_iadd hx hb dX6_climb_128 ?_
            refine lv_topi (fun x19 ex19 => ?_)
            have ix19 := iv_top x19
            refine th_put S hK hH hS ⟨2, by decide, t0⟩ inG6 tyX6 tyX6_ok nmX6 t0 kd_2 rfl 2 (by decide) gm_342 rfl rfl rfl rfl (th_iv ix19) (fun _ _ => trivial) (ty := .int) (by decide +kernel) rfl rfl dX6_climb_129 (fun H locs hH hS hq1 hp1 => ?_)
            have f20 := hp1.1
            refine lv_aload_n hx hb dX6_climb_132 rfl (lv_at hl 2 rfl) ?_
            refine lv_iload hx hb dX6_climb_133 (lv_at hl 0 rfl) ?_
            refine lv_iconst (v := 1) hx hb dX6_climb_135 (by decide) ?_
            refine lv_iadd hx hb dX6_climb_136 ?_
            refine lv_topi (fun x21 ex21 => ?_)
            have ix21 : IV x21 3 5 := by rw [ex21]; exact iv_add ir13 (iv_c (by decide) : IV 1 1 1) (by decide)
            refine lv_iload_n hx hb dX6_climb_137 rfl (lv_at hl 4 rfl) ?_
            refine th_callVi (n := 2) (As := [.int x21, .int y2]) S hK hH hS (th_A.sub (by decide)) (m_X6_climb_d0l3 l D cT T q hq a0 t0 (x21) ix21 (y2) j2) gm_762 gm_759 gm_761 gm_15 gm_115 (by decide +kernel) ⟨rfl, rfl, Nat.le_of_ble_eq_true rfl, Nat.le_of_ble_eq_true rfl⟩ t0 kd_2 rfl rfl hl.1 rfl (Nat.le_of_ble_eq_true rfl) dX6_climb_138 ⟨Nat.zero_le _, Nat.zero_le _⟩ (fun x22 H locs ix22 hH hS hF1 => ?_)
            refine lv_if_ne (tgt := 146) hx hb dX6_climb_141 (by decide) (fun c23 => ?_) (fun c23 => ?_)
            · skip
              have ir24 : IV x22 1 1 := iv_cutL ix22 (iv_c (by decide) : IV 0 0 0) c23 (by decide)
              refine lv_aload_n hx hb dX6_climb_146 rfl (lv_at hl 2 rfl) ?_
              refine th_get S hK hH inG6 t0 kd_2 rfl 1 (by decide) gm_340 rfl rfl dX6_climb_147 (fun v25 hv25 fv25 => ?_)
              obtain ⟨rf26, rfl, trf26⟩ := th_V.ref hv25
              refine th_get S hK hH inG4 trf26 kd_46 rfl 9 (by decide) gm_269 rfl rfl dX6_climb_150 (fun v27 hv27 fv27 => ?_)
              obtain ⟨rf28, rfl, trf28⟩ := th_V.ref hv27
              refine lv_iload hx hb dX6_climb_153 (lv_at hl 1 rfl) ?_
              refine lv_ineg hx hb dX6_climb_155 ?_
              refine lv_topi (fun x29 ex29 => ?_)
              have ix29 := iv_top x29
              refine th_callVv (n := 1) (As := [.int x29]) S hK hH hS (th_A.sub (by decide)) (m_X2_add l D cT T q hq rf28 trf28 (x29) ix29) gm_766 gm_763 gm_764 gm_765 gm_117 (by decide +kernel) ⟨rfl, rfl, Nat.le_of_ble_eq_true rfl, Nat.le_of_ble_eq_true rfl⟩ trf28 kd_56 rfl rfl hl.1 rfl (Nat.le_of_ble_eq_true rfl) dX6_climb_156 ⟨Nat.zero_le _, Nat.zero_le _⟩ (fun H locs hH hS hF1 => ?_)
              have f30 := fv25.kept (hF1 _ fv25.lt (th_off t0 (by decide)))
              have f31 := fv27.kept (hF1 _ fv27.lt (th_off trf26 (by decide)))
              refine lv_iload hx hb dX6_climb_159 (lv_at hl 0 rfl) ?_
              refine lv_iconst (v := 2) hx hb dX6_climb_161 (by decide) ?_
              refine lv_icmp_ne (tgt := 169) hx hb dX6_climb_162 (by decide) (fun c32 => ?_) (fun c32 => ?_)
              · skip
                have ir33 : IV x11 3 4 := iv_cutL ir13 (iv_c (by decide) : IV 2 2 2) c32 (by decide)
                refine lv_iload hx hb dX6_climb_169 (lv_at hl 0 rfl) ?_
                exact J171 H locs ls x11 ir33 ir8 ir14 hH hS (lv_sub hl [2, 3, 4, 6] rfl)
              · skip
                have ir34 : IV x11 2 2 := iv_eL c32 (iv_c (by decide) : IV 2 2 2)
                refine lv_iconst (v := 1) hx hb dX6_climb_165 (by decide) ?_
                refine lv_goto (tgt := 171) hx hb dX6_climb_166 (by decide) ?_
                exact J171_s0_1 H locs ls ir8 ir14 hH hS (lv_sub hl [2, 3, 4, 6] rfl)
            · skip
              have ir35 : IV x22 0 0 := iv_eL c23 (iv_c (by decide) : IV 0 0 0)
              refine lv_iconst (v := 0) hx hb dX6_climb_144 (by decide) ?_
              exact th_zret S hK hH hS hr hlocks (iv_w (iv_c (by decide) : IV 0 0 0) (by decide)) (th_R.i (iv_w (iv_c (by decide) : IV 0 0 0) (by decide))) dX6_climb_145
          · skip
            have ir36 : IV v83_3 1 3 := iv_uL iv83_3 ir13 (iv_nle c15) (by decide)
            exact J120 H locs ls  hH hS (lv_sub hl [] rfl)
  have J80 : ∀ (H : Heap) (locs : List Loc) (ls : Array Slot) (v80_3 : Int32), IV v80_3 1 4 → th_H D cT T (kd q) H → va_S (th_A T [2, 56, 57]) s.heap H locs → lv_has ls 7 [(0, .ref a0), (1, .int y1), (2, .int y2), (3, .int v80_3)] → W p l e (rmk 54 1376) s m [.ref a0, .int y1, .int y2].toArray below meth c H locs 0 0 (MQ below (th_Q D cT T (kd q) (th_R T (some (.inl (0, 1)))) [2, 56, 57]) [.ref a0, .int y1, .int y2].toArray s 0 0 (th_A T [2, 56, 57])) (F0 m 80 ls []) := by
    intro H locs ls v80_3 iv80_3 hH hS hl
    refine lv_iconst (v := 0) hx hb dX6_climb_80 (by decide) ?_
    refine lv_istore (lv' := [(4, .int 0), (0, .ref a0), (1, .int y1), (2, .int y2), (3, .int v80_3)]) hx hb dX6_climb_81 hl (by decide) rfl (fun ls hl => ?_)
    exact J83 ((1601 + 1 - Int32.toInt 0).toNat + 1) H locs ls v80_3 0 iv80_3 (iv_w (iv_c (by decide) : IV 0 0 0) (by decide)) hH hS (lv_sub hl [1, 2, 3, 4, 0] rfl) (Nat.lt_succ_self _)
  have J70 : ∀ (H : Heap) (locs : List Loc) (ls : Array Slot) (v70_3 : Int32), IV v70_3 4 4 → th_H D cT T (kd q) H → va_S (th_A T [2, 56, 57]) s.heap H locs → lv_has ls 7 [(0, .ref a0), (1, .int y1), (2, .int y2), (3, .int v70_3)] → W p l e (rmk 54 1376) s m [.ref a0, .int y1, .int y2].toArray below meth c H locs 0 0 (MQ below (th_Q D cT T (kd q) (th_R T (some (.inl (0, 1)))) [2, 56, 57]) [.ref a0, .int y1, .int y2].toArray s 0 0 (th_A T [2, 56, 57])) (F0 m 70 ls []) := by
    intro H locs ls v70_3 iv70_3 hH hS hl
    refine lv_aload_n hx hb dX6_climb_70 rfl (lv_at hl 0 rfl) ?_
    refine lv_iload_n hx hb dX6_climb_71 rfl (lv_at hl 2 rfl) ?_
    refine th_callVi (n := 1) (As := [.int y2]) S hK hH hS (th_A.sub (by decide)) (m_X6_unit_d0 l D cT T q hq a0 t0 (y2) j2) gm_770 gm_767 gm_769 gm_16 gm_115 (by decide +kernel) ⟨rfl, rfl, Nat.le_of_ble_eq_true rfl, Nat.le_of_ble_eq_true rfl⟩ t0 kd_2 rfl rfl hl.1 rfl (Nat.le_of_ble_eq_true rfl) dX6_climb_72 ⟨Nat.zero_le _, Nat.zero_le _⟩ (fun x37 H locs ix37 hH hS hF1 => ?_)
    refine lv_if_ne (tgt := 80) hx hb dX6_climb_75 (by decide) (fun c38 => ?_) (fun c38 => ?_)
    · skip
      have ir39 : IV x37 1 1 := iv_cutL ix37 (iv_c (by decide) : IV 0 0 0) c38 (by decide)
      exact J80 H locs ls v70_3 (iv_w iv70_3 (by decide)) hH hS (lv_sub hl [0, 1, 2, 3] rfl)
    · skip
      have ir40 : IV x37 0 0 := iv_eL c38 (iv_c (by decide) : IV 0 0 0)
      refine lv_iconst (v := 0) hx hb dX6_climb_78 (by decide) ?_
      exact th_zret S hK hH hS hr hlocks (iv_w (iv_c (by decide) : IV 0 0 0) (by decide)) (th_R.i (iv_w (iv_c (by decide) : IV 0 0 0) (by decide))) dX6_climb_79
  have J0 : ∀ (H : Heap) (locs : List Loc) (ls : Array Slot), th_H D cT T (kd q) H → va_S (th_A T [2, 56, 57]) s.heap H locs → lv_has ls 7 [(0, .ref a0), (1, .int y1), (2, .int y2)] → W p l e (rmk 54 1376) s m [.ref a0, .int y1, .int y2].toArray below meth c H locs 0 0 (MQ below (th_Q D cT T (kd q) (th_R T (some (.inl (0, 1)))) [2, 56, 57]) [.ref a0, .int y1, .int y2].toArray s 0 0 (th_A T [2, 56, 57])) (F0 m 0 ls []) := by
    intro H locs ls hH hS hl
    refine lv_iconst (v := 4) hx hb dX6_climb_0 (by decide) ?_
    refine lv_istore_n (lv' := [(3, .int 4), (0, .ref a0), (1, .int y1), (2, .int y2)]) hx hb dX6_climb_1 rfl hl (by decide) rfl (fun ls hl => ?_)
    refine lv_aload_n hx hb dX6_climb_2 rfl (lv_at hl 1 rfl) ?_
    refine th_callVi (n := 0) (As := []) S hK hH hS (th_A.sub (by decide)) (m_X6_kind l D cT T q hq a0 t0) gm_708 gm_705 gm_707 gm_5 gm_115 (by decide +kernel) ⟨rfl, rfl, Nat.le_of_ble_eq_true rfl, Nat.le_of_ble_eq_true rfl⟩ t0 kd_2 rfl rfl hl.1 rfl (Nat.le_of_ble_eq_true rfl) dX6_climb_3 ⟨Nat.zero_le _, Nat.zero_le _⟩ (fun x41 H locs ix41 hH hS hF1 => ?_)
    refine lv_sipush (v := 149) hx hb dX6_climb_6 (by decide) ?_
    refine lv_icmp_ne (tgt := 70) hx hb dX6_climb_9 (by decide) (fun c42 => ?_) (fun c42 => ?_)
    · skip
      exact J70 H locs ls 4 (iv_c (by decide) : IV 4 4 4) hH hS (lv_sub hl [1, 2, 3, 0] rfl)
    · skip
      have ir43 : IV x41 149 149 := iv_eL c42 (iv_c (by decide) : IV 149 149 149)
      refine lv_iload_n hx hb dX6_climb_12 rfl (lv_at hl 2 rfl) ?_
      refine lv_iconst (v := 2) hx hb dX6_climb_13 (by decide) ?_
      refine lv_icmp_gt (tgt := 70) hx hb dX6_climb_14 (by decide) (fun c44 => ?_) (fun c44 => ?_)
      · skip
        have ir45 : IV y1 3 5 := iv_uR (iv_c (by decide) : IV 2 2 2) j1 (iv_lt c44) (by decide)
        exact J70 H locs ls 4 (iv_c (by decide) : IV 4 4 4) hH hS (lv_sub hl [1, 2, 3, 0] rfl)
      · skip
        have ir46 : IV y1 2 2 := iv_vL j1 (iv_c (by decide) : IV 2 2 2) (iv_nlt c44) (by decide)
        refine lv_iload_n hx hb dX6_climb_17 rfl (lv_at hl 3 rfl) ?_
        refine lv_bipush (v := 7) hx hb dX6_climb_18 (by decide) ?_
        refine lv_icmp_lt (tgt := 29) hx hb dX6_climb_20 (by decide) (fun c47 => ?_) (fun c47 => ?_)
        · skip
          refine lv_aload_n hx hb dX6_climb_29 rfl (lv_at hl 1 rfl) ?_
          refine lv_dup hx hb dX6_climb_30 rfl ?_
          refine th_get S hK hH inG6 t0 kd_2 rfl 2 (by decide) gm_342 rfl rfl dX6_climb_31 (fun v48 hv48 fv48 => ?_)
          obtain ⟨x49, rfl, ix49⟩ := th_V.int hv48
          refine lv_iconst (v := 1) hx hb dX6_climb_34 (by decide) ?_
          refine lv_iadd hx hb dX6_climb_35 ?_
          refine lv_topi (fun x50 ex50 => ?_)
          have ix50 := iv_top x50
          refine th_put S hK hH hS ⟨2, by decide, t0⟩ inG6 tyX6 tyX6_ok nmX6 t0 kd_2 rfl 2 (by decide) gm_342 rfl rfl rfl rfl (th_iv ix50) (fun _ _ => trivial) (ty := .int) (by decide +kernel) rfl rfl dX6_climb_36 (fun H locs hH hS hq1 hp1 => ?_)
          have f51 := hp1.1
          refine lv_aload_n hx hb dX6_climb_39 rfl (lv_at hl 1 rfl) ?_
          refine lv_iconst (v := 2) hx hb dX6_climb_40 (by decide) ?_
          refine lv_iload_n hx hb dX6_climb_41 rfl (lv_at hl 3 rfl) ?_
          refine lv_iconst (v := 1) hx hb dX6_climb_42 (by decide) ?_
          refine lv_iadd hx hb dX6_climb_43 ?_
          refine lv_topi (fun x52 ex52 => ?_)
          have ix52 : IV x52 1 1 := by rw [ex52]; exact iv_add j2 (iv_c (by decide) : IV 1 1 1) (by decide)
          refine th_callVi (n := 2) (As := [.int 2, .int x52]) S hK hH hS (th_A.sub (by decide)) (m_X6_climb_d1l2 l D cT T q hq a0 t0 (2) (iv_w (iv_c (by decide) : IV 2 2 2) (by decide)) (x52) ix52) gm_762 gm_759 gm_761 gm_15 gm_115 (by decide +kernel) ⟨rfl, rfl, Nat.le_of_ble_eq_true rfl, Nat.le_of_ble_eq_true rfl⟩ t0 kd_2 rfl rfl hl.1 rfl (Nat.le_of_ble_eq_true rfl) dX6_climb_44 ⟨Nat.zero_le _, Nat.zero_le _⟩ (fun x53 H locs ix53 hH hS hF1 => ?_)
          refine lv_if_ne (tgt := 52) hx hb dX6_climb_47 (by decide) (fun c54 => ?_) (fun c54 => ?_)
          · skip
            have ir55 : IV x53 1 1 := iv_cutL ix53 (iv_c (by decide) : IV 0 0 0) c54 (by decide)
            refine lv_aload_n hx hb dX6_climb_52 rfl (lv_at hl 1 rfl) ?_
            refine th_get S hK hH inG6 t0 kd_2 rfl 1 (by decide) gm_340 rfl rfl dX6_climb_53 (fun v56 hv56 fv56 => ?_)
            obtain ⟨rf57, rfl, trf57⟩ := th_V.ref hv56
            refine th_get S hK hH inG4 trf57 kd_46 rfl 9 (by decide) gm_269 rfl rfl dX6_climb_56 (fun v58 hv58 fv58 => ?_)
            obtain ⟨rf59, rfl, trf59⟩ := th_V.ref hv58
            refine lv_sipush (v := (-149)) hx hb dX6_climb_59 (by decide) ?_
            refine th_callVv (n := 1) (As := [.int (-149)]) S hK hH hS (th_A.sub (by decide)) (m_X2_add l D cT T q hq rf59 trf59 ((-149)) (iv_top _)) gm_766 gm_763 gm_764 gm_765 gm_117 (by decide +kernel) ⟨rfl, rfl, Nat.le_of_ble_eq_true rfl, Nat.le_of_ble_eq_true rfl⟩ trf59 kd_56 rfl rfl hl.1 rfl (Nat.le_of_ble_eq_true rfl) dX6_climb_62 ⟨Nat.zero_le _, Nat.zero_le _⟩ (fun H locs hH hS hF1 => ?_)
            have f60 := fv56.kept (hF1 _ fv56.lt (th_off t0 (by decide)))
            have f61 := fv58.kept (hF1 _ fv58.lt (th_off trf57 (by decide)))
            refine lv_iconst (v := 1) hx hb dX6_climb_65 (by decide) ?_
            refine lv_istore_n (lv' := [(3, .int 1), (0, .ref a0), (1, .int y1), (2, .int y2)]) hx hb dX6_climb_66 rfl hl (by decide) rfl (fun ls hl => ?_)
            refine lv_goto (tgt := 80) hx hb dX6_climb_67 (by decide) ?_
            exact J80 H locs ls 1 (iv_w (iv_c (by decide) : IV 1 1 1) (by decide)) hH hS (lv_sub hl [1, 2, 3, 0] rfl)
          · skip
            have ir62 : IV x53 0 0 := iv_eL c54 (iv_c (by decide) : IV 0 0 0)
            refine lv_iconst (v := 0) hx hb dX6_climb_50 (by decide) ?_
            exact th_zret S hK hH hS hr hlocks (iv_w (iv_c (by decide) : IV 0 0 0) (by decide)) (th_R.i (iv_w (iv_c (by decide) : IV 0 0 0) (by decide))) dX6_climb_51
        · skip
          exfalso
          have z1 := iv_nlt c47
          have z2 := (j2).1
          have z3 := (j2).2
          have z4 := ((iv_c (by decide) : IV 7 7 7)).1
          have z5 := ((iv_c (by decide) : IV 7 7 7)).2
          omega
  exact J0 s.heap [] ls hH va_S.rf hl

set_option maxRecDepth 100000 in
theorem m_X6_climb_d0l1 (l : Launch) (D : va_G) (cT : Nat → ClassId) (T : Nat → Option Nat) (q : Nat → Int) (hq : qok q) (a0 : Nat) (t0 : T a0 = some 2) (y1 : Int32) (j1 : IV y1 1 5) (y2 : Int32) (j2 : IV y2 0 0) : th_Met l D cT T (kd q) yX6_climb cX6_climb 7 (some .boolean) (rmk 55 1402) [.ref a0, .int y1, .int y2] (th_R T (some (.inl (0, 1)))) [2, 56, 57] := by
  refine th_start (by decide) (Nat.le_of_ble_eq_true rfl) ?_
  intro p e s m below meth c ls S hK hH hr hlocks hnm hl
  have hx := S.1
  have hb := S.2.1
  have hl : lv_has ls 7 [(0, .ref a0), (1, .int y1), (2, .int y2)] := hl
  have J83 : ∀ (n : Nat) (H : Heap) (locs : List Loc) (ls : Array Slot) (v83_3 : Int32) (v83_4 : Int32), IV v83_3 1 4 → IV v83_4 0 1601 → th_H D cT T (kd q) H → va_S (th_A T [2, 56, 57]) s.heap H locs → lv_has ls 7 [(0, .ref a0), (1, .int y1), (2, .int y2), (3, .int v83_3), (4, .int v83_4)] → (1601 + 1 - v83_4.toInt).toNat < n → W p l e (rmk 55 1402) s m [.ref a0, .int y1, .int y2].toArray below meth c H locs 0 0 (MQ below (th_Q D cT T (kd q) (th_R T (some (.inl (0, 1)))) [2, 56, 57]) [.ref a0, .int y1, .int y2].toArray s 0 0 (th_A T [2, 56, 57])) (F0 m 83 ls []) := by
    intro n
    induction n with
    | zero => intro H locs ls v83_3 v83_4 iv83_3 iv83_4 hH hS hl hn; exact absurd hn (Nat.not_lt_zero _)
    | succ n ih83 =>
      intro H locs ls v83_3 v83_4 iv83_3 iv83_4 hH hS hl hn83
      have J171 : ∀ (H : Heap) (locs : List Loc) (ls : Array Slot) (w171_0 : Int32), IV w171_0 1 4 → IV v83_4 0 1600 → IV y1 1 4 → th_H D cT T (kd q) H → va_S (th_A T [2, 56, 57]) s.heap H locs → lv_has ls 7 [(0, .ref a0), (1, .int y1), (2, .int y2), (4, .int v83_4)] → W p l e (rmk 55 1402) s m [.ref a0, .int y1, .int y2].toArray below meth c H locs 0 0 (MQ below (th_Q D cT T (kd q) (th_R T (some (.inl (0, 1)))) [2, 56, 57]) [.ref a0, .int y1, .int y2].toArray s 0 0 (th_A T [2, 56, 57])) (F0 m 171 ls [.int w171_0]) := by
        intro H locs ls w171_0 iw171_0 f171_v83_4 f171_y1 hH hS hl
        refine lv_istore_n (lv' := [(3, .int w171_0), (0, .ref a0), (1, .int y1), (2, .int y2), (4, .int v83_4)]) hx hb dX6_climb_171 rfl hl (by decide) rfl (fun ls hl => ?_)
        refine th_iinc S dX6_climb_172 hl (k := 4) rfl (by decide) f171_v83_4 (by decide) (fun x1 ls ex1 ix1 hl => ?_)
        have hl : lv_has ls 7 [(4, .int x1), (3, .int w171_0), (0, .ref a0), (1, .int y1), (2, .int y2)] := hl
        have ix1 : IV x1 1 1601 := ix1
        refine lv_goto (tgt := 83) hx hb dX6_climb_175 (by decide) ?_
        exact ih83 H locs ls w171_0 x1 iw171_0 (iv_w ix1 (by decide)) hH hS (lv_sub hl [2, 3, 4, 1, 0] rfl) (th_up iv83_4 ex1 (by decide) hn83)
      have J171_s0_1 : ∀ (H : Heap) (locs : List Loc) (ls : Array Slot), IV v83_4 0 1600 → IV y1 1 4 → th_H D cT T (kd q) H → va_S (th_A T [2, 56, 57]) s.heap H locs → lv_has ls 7 [(0, .ref a0), (1, .int y1), (2, .int y2), (4, .int v83_4)] → W p l e (rmk 55 1402) s m [.ref a0, .int y1, .int y2].toArray below meth c H locs 0 0 (MQ below (th_Q D cT T (kd q) (th_R T (some (.inl (0, 1)))) [2, 56, 57]) [.ref a0, .int y1, .int y2].toArray s 0 0 (th_A T [2, 56, 57])) (F0 m 171 ls [.int 1]) := by
        intro H locs ls f171_v83_4 f171_y1 hH hS hl
        refine lv_istore_n (lv' := [(3, .int 1), (0, .ref a0), (1, .int y1), (2, .int y2), (4, .int v83_4)]) hx hb dX6_climb_171 rfl hl (by decide) rfl (fun ls hl => ?_)
        refine th_iinc S dX6_climb_172 hl (k := 4) rfl (by decide) f171_v83_4 (by decide) (fun x2 ls ex2 ix2 hl => ?_)
        have hl : lv_has ls 7 [(4, .int x2), (3, .int 1), (0, .ref a0), (1, .int y1), (2, .int y2)] := hl
        have ix2 : IV x2 1 1601 := ix2
        refine lv_goto (tgt := 83) hx hb dX6_climb_175 (by decide) ?_
        exact ih83 H locs ls 1 x2 (iv_w (iv_c (by decide) : IV 1 1 1) (by decide)) (iv_w ix2 (by decide)) hH hS (lv_sub hl [2, 3, 4, 1, 0] rfl) (th_up iv83_4 ex2 (by decide) hn83)
      have J120 : ∀ (H : Heap) (locs : List Loc) (ls : Array Slot), th_H D cT T (kd q) H → va_S (th_A T [2, 56, 57]) s.heap H locs → lv_has ls 7 [] → W p l e (rmk 55 1402) s m [.ref a0, .int y1, .int y2].toArray below meth c H locs 0 0 (MQ below (th_Q D cT T (kd q) (th_R T (some (.inl (0, 1)))) [2, 56, 57]) [.ref a0, .int y1, .int y2].toArray s 0 0 (th_A T [2, 56, 57])) (F0 m 120 ls []) := by
        intro H locs ls hH hS hl
        refine lv_iconst (v := 1) hx hb dX6_climb_120 (by decide) ?_
        exact th_zret S hK hH hS hr hlocks (iv_w (iv_c (by decide) : IV 1 1 1) (by decide)) (th_R.i (iv_w (iv_c (by decide) : IV 1 1 1) (by decide))) dX6_climb_121
      refine lv_iload hx hb dX6_climb_83 (lv_at hl 4 rfl) ?_
      refine lv_aload_n hx hb dX6_climb_85 rfl (lv_at hl 0 rfl) ?_
      refine th_get S hK hH inG6 t0 kd_2 rfl 0 (by decide) gm_339 rfl rfl dX6_climb_86 (fun v3 hv3 fv3 => ?_)
      obtain ⟨rf4, rfl, trf4⟩ := th_V.ref hv3
      refine th_get S hK hH inG8 trf4 kd_1 rfl 5 (by decide) gm_159 rfl rfl dX6_climb_89 (fun v5 hv5 fv5 => ?_)
      obtain ⟨x6, rfl, ix6⟩ := th_V.int hv5
      refine lv_icmp_ge (tgt := 178) hx hb dX6_climb_92 (by decide) (fun c7 => ?_) (fun c7 => ?_)
      · skip
        refine lv_iconst (v := 1) hx hb dX6_climb_178 (by decide) ?_
        exact th_zret S hK hH hS hr hlocks (iv_w (iv_c (by decide) : IV 1 1 1) (by decide)) (th_R.i (iv_w (iv_c (by decide) : IV 1 1 1) (by decide))) dX6_climb_179
      · skip
        have ir8 : IV v83_4 0 1600 := iv_uL iv83_4 ix6 (iv_nle c7) (by decide)
        have ir9 : IV x6 1 1601 := iv_uR iv83_4 ix6 (iv_nle c7) (by decide)
        refine lv_aload_n hx hb dX6_climb_95 rfl (lv_at hl 0 rfl) ?_
        refine th_callVi (n := 0) (As := []) S hK hH hS (th_A.sub (by decide)) (m_X6_kind l D cT T q hq a0 t0) gm_708 gm_705 gm_707 gm_5 gm_115 (by decide +kernel) ⟨rfl, rfl, Nat.le_of_ble_eq_true rfl, Nat.le_of_ble_eq_true rfl⟩ t0 kd_2 rfl rfl hl.1 rfl (Nat.le_of_ble_eq_true rfl) dX6_climb_96 ⟨Nat.zero_le _, Nat.zero_le _⟩ (fun x10 H locs ix10 hH hS hF1 => ?_)
        refine lv_istore (lv' := [(5, .int x10), (0, .ref a0), (1, .int y1), (2, .int y2), (3, .int v83_3), (4, .int v83_4)]) hx hb dX6_climb_99 hl (by decide) rfl (fun ls hl => ?_)
        refine lv_iload hx hb dX6_climb_101 (lv_at hl 0 rfl) ?_
        refine th_callSi (n := 1) (As := [.int x10]) S hK hH hS (th_A.sub (by decide)) (m_X6_levelOf l D cT T q hq (x10) ix10) gm_773 gm_771 gm_772 gm_115 (by decide +kernel) ⟨rfl, rfl, Nat.le_of_ble_eq_true rfl, Nat.le_of_ble_eq_true rfl⟩ rfl hl.1 rfl (Nat.le_of_ble_eq_true rfl) dX6_climb_103 ⟨Nat.zero_le _, Nat.zero_le _⟩ (fun x11 H locs ix11 hH hS hF1 => ?_)
        refine lv_istore (lv' := [(6, .int x11), (5, .int x10), (0, .ref a0), (1, .int y1), (2, .int y2), (3, .int v83_3), (4, .int v83_4)]) hx hb dX6_climb_106 hl (by decide) rfl (fun ls hl => ?_)
        refine lv_iload hx hb dX6_climb_108 (lv_at hl 0 rfl) ?_
        refine lv_iload_n hx hb dX6_climb_110 rfl (lv_at hl 3 rfl) ?_
        refine lv_icmp_lt (tgt := 120) hx hb dX6_climb_111 (by decide) (fun c12 => ?_) (fun c12 => ?_)
        · skip
          exact J120 H locs ls  hH hS (lv_sub hl [] rfl)
        · skip
          have ir13 : IV x11 1 4 := iv_vR j1 ix11 (iv_nlt c12) (by decide)
          have ir14 : IV y1 1 4 := iv_vL j1 ix11 (iv_nlt c12) (by decide)
          refine lv_iload hx hb dX6_climb_114 (lv_at hl 0 rfl) ?_
          refine lv_iload_n hx hb dX6_climb_116 rfl (lv_at hl 5 rfl) ?_
          refine lv_icmp_le (tgt := 122) hx hb dX6_climb_117 (by decide) (fun c15 => ?_) (fun c15 => ?_)
          · skip
            refine lv_aload_n hx hb dX6_climb_122 rfl (lv_at hl 2 rfl) ?_
            refine lv_dup hx hb dX6_climb_123 rfl ?_
            refine th_get S hK hH inG6 t0 kd_2 rfl 2 (by decide) gm_342 rfl rfl dX6_climb_124 (fun v16 hv16 fv16 => ?_)
            obtain ⟨x17, rfl, ix17⟩ := th_V.int hv16
            refine lv_iconst (v := 1) hx hb dX6_climb_127 (by decide) ?_
            refine lv_iadd hx hb dX6_climb_128 ?_
            refine lv_topi (fun x18 ex18 => ?_)
            have ix18 := iv_top x18
            refine th_put S hK hH hS ⟨2, by decide, t0⟩ inG6 tyX6 tyX6_ok nmX6 t0 kd_2 rfl 2 (by decide) gm_342 rfl rfl rfl rfl (th_iv ix18) (fun _ _ => trivial) (ty := .int) (by decide +kernel) rfl rfl dX6_climb_129 (fun H locs hH hS hq1 hp1 => ?_)
            have f19 := hp1.1
            refine lv_aload_n hx hb dX6_climb_132 rfl (lv_at hl 2 rfl) ?_
            refine lv_iload hx hb dX6_climb_133 (lv_at hl 0 rfl) ?_
            refine lv_iconst (v := 1) hx hb dX6_climb_135 (by decide) ?_
            refine lv_iadd hx hb dX6_climb_136 ?_
            refine lv_topi (fun x20 ex20 => ?_)
            have ix20 : IV x20 2 5 := by rw [ex20]; exact iv_add ir13 (iv_c (by decide) : IV 1 1 1) (by decide)
            refine lv_iload_n hx hb dX6_climb_137 rfl (lv_at hl 4 rfl) ?_
            refine th_callVi (n := 2) (As := [.int x20, .int y2]) S hK hH hS (th_A.sub (by decide)) (m_X6_climb_d0l2 l D cT T q hq a0 t0 (x20) ix20 (y2) j2) gm_762 gm_759 gm_761 gm_15 gm_115 (by decide +kernel) ⟨rfl, rfl, Nat.le_of_ble_eq_true rfl, Nat.le_of_ble_eq_true rfl⟩ t0 kd_2 rfl rfl hl.1 rfl (Nat.le_of_ble_eq_true rfl) dX6_climb_138 ⟨Nat.zero_le _, Nat.zero_le _⟩ (fun x21 H locs ix21 hH hS hF1 => ?_)
            refine lv_if_ne (tgt := 146) hx hb dX6_climb_141 (by decide) (fun c22 => ?_) (fun c22 => ?_)
            · skip
              have ir23 : IV x21 1 1 := iv_cutL ix21 (iv_c (by decide) : IV 0 0 0) c22 (by decide)
              refine lv_aload_n hx hb dX6_climb_146 rfl (lv_at hl 2 rfl) ?_
              refine th_get S hK hH inG6 t0 kd_2 rfl 1 (by decide) gm_340 rfl rfl dX6_climb_147 (fun v24 hv24 fv24 => ?_)
              obtain ⟨rf25, rfl, trf25⟩ := th_V.ref hv24
              refine th_get S hK hH inG4 trf25 kd_46 rfl 9 (by decide) gm_269 rfl rfl dX6_climb_150 (fun v26 hv26 fv26 => ?_)
              obtain ⟨rf27, rfl, trf27⟩ := th_V.ref hv26
              refine lv_iload hx hb dX6_climb_153 (lv_at hl 1 rfl) ?_
              refine lv_ineg hx hb dX6_climb_155 ?_
              refine lv_topi (fun x28 ex28 => ?_)
              have ix28 := iv_top x28
              refine th_callVv (n := 1) (As := [.int x28]) S hK hH hS (th_A.sub (by decide)) (m_X2_add l D cT T q hq rf27 trf27 (x28) ix28) gm_766 gm_763 gm_764 gm_765 gm_117 (by decide +kernel) ⟨rfl, rfl, Nat.le_of_ble_eq_true rfl, Nat.le_of_ble_eq_true rfl⟩ trf27 kd_56 rfl rfl hl.1 rfl (Nat.le_of_ble_eq_true rfl) dX6_climb_156 ⟨Nat.zero_le _, Nat.zero_le _⟩ (fun H locs hH hS hF1 => ?_)
              have f29 := fv24.kept (hF1 _ fv24.lt (th_off t0 (by decide)))
              have f30 := fv26.kept (hF1 _ fv26.lt (th_off trf25 (by decide)))
              refine lv_iload hx hb dX6_climb_159 (lv_at hl 0 rfl) ?_
              refine lv_iconst (v := 2) hx hb dX6_climb_161 (by decide) ?_
              refine lv_icmp_ne (tgt := 169) hx hb dX6_climb_162 (by decide) (fun c31 => ?_) (fun c31 => ?_)
              · skip
                refine lv_iload hx hb dX6_climb_169 (lv_at hl 0 rfl) ?_
                exact J171 H locs ls x11 ir13 ir8 ir14 hH hS (lv_sub hl [2, 3, 4, 6] rfl)
              · skip
                have ir32 : IV x11 2 2 := iv_eL c31 (iv_c (by decide) : IV 2 2 2)
                refine lv_iconst (v := 1) hx hb dX6_climb_165 (by decide) ?_
                refine lv_goto (tgt := 171) hx hb dX6_climb_166 (by decide) ?_
                exact J171_s0_1 H locs ls ir8 ir14 hH hS (lv_sub hl [2, 3, 4, 6] rfl)
            · skip
              have ir33 : IV x21 0 0 := iv_eL c22 (iv_c (by decide) : IV 0 0 0)
              refine lv_iconst (v := 0) hx hb dX6_climb_144 (by decide) ?_
              exact th_zret S hK hH hS hr hlocks (iv_w (iv_c (by decide) : IV 0 0 0) (by decide)) (th_R.i (iv_w (iv_c (by decide) : IV 0 0 0) (by decide))) dX6_climb_145
          · skip
            have ir34 : IV v83_3 1 3 := iv_uL iv83_3 ir13 (iv_nle c15) (by decide)
            have ir35 : IV x11 2 4 := iv_uR iv83_3 ir13 (iv_nle c15) (by decide)
            exact J120 H locs ls  hH hS (lv_sub hl [] rfl)
  have J80 : ∀ (H : Heap) (locs : List Loc) (ls : Array Slot) (v80_3 : Int32), IV v80_3 1 4 → th_H D cT T (kd q) H → va_S (th_A T [2, 56, 57]) s.heap H locs → lv_has ls 7 [(0, .ref a0), (1, .int y1), (2, .int y2), (3, .int v80_3)] → W p l e (rmk 55 1402) s m [.ref a0, .int y1, .int y2].toArray below meth c H locs 0 0 (MQ below (th_Q D cT T (kd q) (th_R T (some (.inl (0, 1)))) [2, 56, 57]) [.ref a0, .int y1, .int y2].toArray s 0 0 (th_A T [2, 56, 57])) (F0 m 80 ls []) := by
    intro H locs ls v80_3 iv80_3 hH hS hl
    refine lv_iconst (v := 0) hx hb dX6_climb_80 (by decide) ?_
    refine lv_istore (lv' := [(4, .int 0), (0, .ref a0), (1, .int y1), (2, .int y2), (3, .int v80_3)]) hx hb dX6_climb_81 hl (by decide) rfl (fun ls hl => ?_)
    exact J83 ((1601 + 1 - Int32.toInt 0).toNat + 1) H locs ls v80_3 0 iv80_3 (iv_w (iv_c (by decide) : IV 0 0 0) (by decide)) hH hS (lv_sub hl [1, 2, 3, 4, 0] rfl) (Nat.lt_succ_self _)
  have J70 : ∀ (H : Heap) (locs : List Loc) (ls : Array Slot) (v70_3 : Int32), IV v70_3 4 4 → th_H D cT T (kd q) H → va_S (th_A T [2, 56, 57]) s.heap H locs → lv_has ls 7 [(0, .ref a0), (1, .int y1), (2, .int y2), (3, .int v70_3)] → W p l e (rmk 55 1402) s m [.ref a0, .int y1, .int y2].toArray below meth c H locs 0 0 (MQ below (th_Q D cT T (kd q) (th_R T (some (.inl (0, 1)))) [2, 56, 57]) [.ref a0, .int y1, .int y2].toArray s 0 0 (th_A T [2, 56, 57])) (F0 m 70 ls []) := by
    intro H locs ls v70_3 iv70_3 hH hS hl
    refine lv_aload_n hx hb dX6_climb_70 rfl (lv_at hl 0 rfl) ?_
    refine lv_iload_n hx hb dX6_climb_71 rfl (lv_at hl 2 rfl) ?_
    refine th_callVi (n := 1) (As := [.int y2]) S hK hH hS (th_A.sub (by decide)) (m_X6_unit_d0 l D cT T q hq a0 t0 (y2) j2) gm_770 gm_767 gm_769 gm_16 gm_115 (by decide +kernel) ⟨rfl, rfl, Nat.le_of_ble_eq_true rfl, Nat.le_of_ble_eq_true rfl⟩ t0 kd_2 rfl rfl hl.1 rfl (Nat.le_of_ble_eq_true rfl) dX6_climb_72 ⟨Nat.zero_le _, Nat.zero_le _⟩ (fun x36 H locs ix36 hH hS hF1 => ?_)
    refine lv_if_ne (tgt := 80) hx hb dX6_climb_75 (by decide) (fun c37 => ?_) (fun c37 => ?_)
    · skip
      have ir38 : IV x36 1 1 := iv_cutL ix36 (iv_c (by decide) : IV 0 0 0) c37 (by decide)
      exact J80 H locs ls v70_3 (iv_w iv70_3 (by decide)) hH hS (lv_sub hl [0, 1, 2, 3] rfl)
    · skip
      have ir39 : IV x36 0 0 := iv_eL c37 (iv_c (by decide) : IV 0 0 0)
      refine lv_iconst (v := 0) hx hb dX6_climb_78 (by decide) ?_
      exact th_zret S hK hH hS hr hlocks (iv_w (iv_c (by decide) : IV 0 0 0) (by decide)) (th_R.i (iv_w (iv_c (by decide) : IV 0 0 0) (by decide))) dX6_climb_79
  have J0 : ∀ (H : Heap) (locs : List Loc) (ls : Array Slot), th_H D cT T (kd q) H → va_S (th_A T [2, 56, 57]) s.heap H locs → lv_has ls 7 [(0, .ref a0), (1, .int y1), (2, .int y2)] → W p l e (rmk 55 1402) s m [.ref a0, .int y1, .int y2].toArray below meth c H locs 0 0 (MQ below (th_Q D cT T (kd q) (th_R T (some (.inl (0, 1)))) [2, 56, 57]) [.ref a0, .int y1, .int y2].toArray s 0 0 (th_A T [2, 56, 57])) (F0 m 0 ls []) := by
    intro H locs ls hH hS hl
    refine lv_iconst (v := 4) hx hb dX6_climb_0 (by decide) ?_
    refine lv_istore_n (lv' := [(3, .int 4), (0, .ref a0), (1, .int y1), (2, .int y2)]) hx hb dX6_climb_1 rfl hl (by decide) rfl (fun ls hl => ?_)
    refine lv_aload_n hx hb dX6_climb_2 rfl (lv_at hl 1 rfl) ?_
    refine th_callVi (n := 0) (As := []) S hK hH hS (th_A.sub (by decide)) (m_X6_kind l D cT T q hq a0 t0) gm_708 gm_705 gm_707 gm_5 gm_115 (by decide +kernel) ⟨rfl, rfl, Nat.le_of_ble_eq_true rfl, Nat.le_of_ble_eq_true rfl⟩ t0 kd_2 rfl rfl hl.1 rfl (Nat.le_of_ble_eq_true rfl) dX6_climb_3 ⟨Nat.zero_le _, Nat.zero_le _⟩ (fun x40 H locs ix40 hH hS hF1 => ?_)
    refine lv_sipush (v := 149) hx hb dX6_climb_6 (by decide) ?_
    refine lv_icmp_ne (tgt := 70) hx hb dX6_climb_9 (by decide) (fun c41 => ?_) (fun c41 => ?_)
    · skip
      exact J70 H locs ls 4 (iv_c (by decide) : IV 4 4 4) hH hS (lv_sub hl [1, 2, 3, 0] rfl)
    · skip
      have ir42 : IV x40 149 149 := iv_eL c41 (iv_c (by decide) : IV 149 149 149)
      refine lv_iload_n hx hb dX6_climb_12 rfl (lv_at hl 2 rfl) ?_
      refine lv_iconst (v := 2) hx hb dX6_climb_13 (by decide) ?_
      refine lv_icmp_gt (tgt := 70) hx hb dX6_climb_14 (by decide) (fun c43 => ?_) (fun c43 => ?_)
      · skip
        have ir44 : IV y1 3 5 := iv_uR (iv_c (by decide) : IV 2 2 2) j1 (iv_lt c43) (by decide)
        exact J70 H locs ls 4 (iv_c (by decide) : IV 4 4 4) hH hS (lv_sub hl [1, 2, 3, 0] rfl)
      · skip
        have ir45 : IV y1 1 2 := iv_vL j1 (iv_c (by decide) : IV 2 2 2) (iv_nlt c43) (by decide)
        refine lv_iload_n hx hb dX6_climb_17 rfl (lv_at hl 3 rfl) ?_
        refine lv_bipush (v := 7) hx hb dX6_climb_18 (by decide) ?_
        refine lv_icmp_lt (tgt := 29) hx hb dX6_climb_20 (by decide) (fun c46 => ?_) (fun c46 => ?_)
        · skip
          refine lv_aload_n hx hb dX6_climb_29 rfl (lv_at hl 1 rfl) ?_
          refine lv_dup hx hb dX6_climb_30 rfl ?_
          refine th_get S hK hH inG6 t0 kd_2 rfl 2 (by decide) gm_342 rfl rfl dX6_climb_31 (fun v47 hv47 fv47 => ?_)
          obtain ⟨x48, rfl, ix48⟩ := th_V.int hv47
          refine lv_iconst (v := 1) hx hb dX6_climb_34 (by decide) ?_
          refine lv_iadd hx hb dX6_climb_35 ?_
          refine lv_topi (fun x49 ex49 => ?_)
          have ix49 := iv_top x49
          refine th_put S hK hH hS ⟨2, by decide, t0⟩ inG6 tyX6 tyX6_ok nmX6 t0 kd_2 rfl 2 (by decide) gm_342 rfl rfl rfl rfl (th_iv ix49) (fun _ _ => trivial) (ty := .int) (by decide +kernel) rfl rfl dX6_climb_36 (fun H locs hH hS hq1 hp1 => ?_)
          have f50 := hp1.1
          refine lv_aload_n hx hb dX6_climb_39 rfl (lv_at hl 1 rfl) ?_
          refine lv_iconst (v := 2) hx hb dX6_climb_40 (by decide) ?_
          refine lv_iload_n hx hb dX6_climb_41 rfl (lv_at hl 3 rfl) ?_
          refine lv_iconst (v := 1) hx hb dX6_climb_42 (by decide) ?_
          refine lv_iadd hx hb dX6_climb_43 ?_
          refine lv_topi (fun x51 ex51 => ?_)
          have ix51 : IV x51 1 1 := by rw [ex51]; exact iv_add j2 (iv_c (by decide) : IV 1 1 1) (by decide)
          refine th_callVi (n := 2) (As := [.int 2, .int x51]) S hK hH hS (th_A.sub (by decide)) (m_X6_climb_d1l2 l D cT T q hq a0 t0 (2) (iv_w (iv_c (by decide) : IV 2 2 2) (by decide)) (x51) ix51) gm_762 gm_759 gm_761 gm_15 gm_115 (by decide +kernel) ⟨rfl, rfl, Nat.le_of_ble_eq_true rfl, Nat.le_of_ble_eq_true rfl⟩ t0 kd_2 rfl rfl hl.1 rfl (Nat.le_of_ble_eq_true rfl) dX6_climb_44 ⟨Nat.zero_le _, Nat.zero_le _⟩ (fun x52 H locs ix52 hH hS hF1 => ?_)
          refine lv_if_ne (tgt := 52) hx hb dX6_climb_47 (by decide) (fun c53 => ?_) (fun c53 => ?_)
          · skip
            have ir54 : IV x52 1 1 := iv_cutL ix52 (iv_c (by decide) : IV 0 0 0) c53 (by decide)
            refine lv_aload_n hx hb dX6_climb_52 rfl (lv_at hl 1 rfl) ?_
            refine th_get S hK hH inG6 t0 kd_2 rfl 1 (by decide) gm_340 rfl rfl dX6_climb_53 (fun v55 hv55 fv55 => ?_)
            obtain ⟨rf56, rfl, trf56⟩ := th_V.ref hv55
            refine th_get S hK hH inG4 trf56 kd_46 rfl 9 (by decide) gm_269 rfl rfl dX6_climb_56 (fun v57 hv57 fv57 => ?_)
            obtain ⟨rf58, rfl, trf58⟩ := th_V.ref hv57
            refine lv_sipush (v := (-149)) hx hb dX6_climb_59 (by decide) ?_
            refine th_callVv (n := 1) (As := [.int (-149)]) S hK hH hS (th_A.sub (by decide)) (m_X2_add l D cT T q hq rf58 trf58 ((-149)) (iv_top _)) gm_766 gm_763 gm_764 gm_765 gm_117 (by decide +kernel) ⟨rfl, rfl, Nat.le_of_ble_eq_true rfl, Nat.le_of_ble_eq_true rfl⟩ trf58 kd_56 rfl rfl hl.1 rfl (Nat.le_of_ble_eq_true rfl) dX6_climb_62 ⟨Nat.zero_le _, Nat.zero_le _⟩ (fun H locs hH hS hF1 => ?_)
            have f59 := fv55.kept (hF1 _ fv55.lt (th_off t0 (by decide)))
            have f60 := fv57.kept (hF1 _ fv57.lt (th_off trf56 (by decide)))
            refine lv_iconst (v := 1) hx hb dX6_climb_65 (by decide) ?_
            refine lv_istore_n (lv' := [(3, .int 1), (0, .ref a0), (1, .int y1), (2, .int y2)]) hx hb dX6_climb_66 rfl hl (by decide) rfl (fun ls hl => ?_)
            refine lv_goto (tgt := 80) hx hb dX6_climb_67 (by decide) ?_
            exact J80 H locs ls 1 (iv_w (iv_c (by decide) : IV 1 1 1) (by decide)) hH hS (lv_sub hl [1, 2, 3, 0] rfl)
          · skip
            have ir61 : IV x52 0 0 := iv_eL c53 (iv_c (by decide) : IV 0 0 0)
            refine lv_iconst (v := 0) hx hb dX6_climb_50 (by decide) ?_
            exact th_zret S hK hH hS hr hlocks (iv_w (iv_c (by decide) : IV 0 0 0) (by decide)) (th_R.i (iv_w (iv_c (by decide) : IV 0 0 0) (by decide))) dX6_climb_51
        · skip
          exfalso
          have z1 := iv_nlt c46
          have z2 := (j2).1
          have z3 := (j2).2
          have z4 := ((iv_c (by decide) : IV 7 7 7)).1
          have z5 := ((iv_c (by decide) : IV 7 7 7)).2
          omega
  exact J0 s.heap [] ls hH va_S.rf hl

set_option maxRecDepth 100000 in
theorem m_X6_climb_d0l0 (l : Launch) (D : va_G) (cT : Nat → ClassId) (T : Nat → Option Nat) (q : Nat → Int) (hq : qok q) (a0 : Nat) (t0 : T a0 = some 2) (y1 : Int32) (j1 : IV y1 0 5) (y2 : Int32) (j2 : IV y2 0 0) : th_Met l D cT T (kd q) yX6_climb cX6_climb 7 (some .boolean) (rmk 56 1428) [.ref a0, .int y1, .int y2] (th_R T (some (.inl (0, 1)))) [2, 56, 57] := by
  refine th_start (by decide) (Nat.le_of_ble_eq_true rfl) ?_
  intro p e s m below meth c ls S hK hH hr hlocks hnm hl
  have hx := S.1
  have hb := S.2.1
  have hl : lv_has ls 7 [(0, .ref a0), (1, .int y1), (2, .int y2)] := hl
  have J83 : ∀ (n : Nat) (H : Heap) (locs : List Loc) (ls : Array Slot) (v83_3 : Int32) (v83_4 : Int32), IV v83_3 0 4 → IV v83_4 0 1601 → th_H D cT T (kd q) H → va_S (th_A T [2, 56, 57]) s.heap H locs → lv_has ls 7 [(0, .ref a0), (1, .int y1), (2, .int y2), (3, .int v83_3), (4, .int v83_4)] → (1601 + 1 - v83_4.toInt).toNat < n → W p l e (rmk 56 1428) s m [.ref a0, .int y1, .int y2].toArray below meth c H locs 0 0 (MQ below (th_Q D cT T (kd q) (th_R T (some (.inl (0, 1)))) [2, 56, 57]) [.ref a0, .int y1, .int y2].toArray s 0 0 (th_A T [2, 56, 57])) (F0 m 83 ls []) := by
    intro n
    induction n with
    | zero => intro H locs ls v83_3 v83_4 iv83_3 iv83_4 hH hS hl hn; exact absurd hn (Nat.not_lt_zero _)
    | succ n ih83 =>
      intro H locs ls v83_3 v83_4 iv83_3 iv83_4 hH hS hl hn83
      have J171 : ∀ (H : Heap) (locs : List Loc) (ls : Array Slot) (w171_0 : Int32), IV w171_0 0 4 → IV v83_4 0 1600 → IV y1 0 4 → th_H D cT T (kd q) H → va_S (th_A T [2, 56, 57]) s.heap H locs → lv_has ls 7 [(0, .ref a0), (1, .int y1), (2, .int y2), (4, .int v83_4)] → W p l e (rmk 56 1428) s m [.ref a0, .int y1, .int y2].toArray below meth c H locs 0 0 (MQ below (th_Q D cT T (kd q) (th_R T (some (.inl (0, 1)))) [2, 56, 57]) [.ref a0, .int y1, .int y2].toArray s 0 0 (th_A T [2, 56, 57])) (F0 m 171 ls [.int w171_0]) := by
        intro H locs ls w171_0 iw171_0 f171_v83_4 f171_y1 hH hS hl
        refine lv_istore_n (lv' := [(3, .int w171_0), (0, .ref a0), (1, .int y1), (2, .int y2), (4, .int v83_4)]) hx hb dX6_climb_171 rfl hl (by decide) rfl (fun ls hl => ?_)
        refine th_iinc S dX6_climb_172 hl (k := 4) rfl (by decide) f171_v83_4 (by decide) (fun x1 ls ex1 ix1 hl => ?_)
        have hl : lv_has ls 7 [(4, .int x1), (3, .int w171_0), (0, .ref a0), (1, .int y1), (2, .int y2)] := hl
        have ix1 : IV x1 1 1601 := ix1
        refine lv_goto (tgt := 83) hx hb dX6_climb_175 (by decide) ?_
        exact ih83 H locs ls w171_0 x1 iw171_0 (iv_w ix1 (by decide)) hH hS (lv_sub hl [2, 3, 4, 1, 0] rfl) (th_up iv83_4 ex1 (by decide) hn83)
      have J171_s0_1 : ∀ (H : Heap) (locs : List Loc) (ls : Array Slot), IV v83_4 0 1600 → IV y1 0 4 → th_H D cT T (kd q) H → va_S (th_A T [2, 56, 57]) s.heap H locs → lv_has ls 7 [(0, .ref a0), (1, .int y1), (2, .int y2), (4, .int v83_4)] → W p l e (rmk 56 1428) s m [.ref a0, .int y1, .int y2].toArray below meth c H locs 0 0 (MQ below (th_Q D cT T (kd q) (th_R T (some (.inl (0, 1)))) [2, 56, 57]) [.ref a0, .int y1, .int y2].toArray s 0 0 (th_A T [2, 56, 57])) (F0 m 171 ls [.int 1]) := by
        intro H locs ls f171_v83_4 f171_y1 hH hS hl
        refine lv_istore_n (lv' := [(3, .int 1), (0, .ref a0), (1, .int y1), (2, .int y2), (4, .int v83_4)]) hx hb dX6_climb_171 rfl hl (by decide) rfl (fun ls hl => ?_)
        refine th_iinc S dX6_climb_172 hl (k := 4) rfl (by decide) f171_v83_4 (by decide) (fun x2 ls ex2 ix2 hl => ?_)
        have hl : lv_has ls 7 [(4, .int x2), (3, .int 1), (0, .ref a0), (1, .int y1), (2, .int y2)] := hl
        have ix2 : IV x2 1 1601 := ix2
        refine lv_goto (tgt := 83) hx hb dX6_climb_175 (by decide) ?_
        exact ih83 H locs ls 1 x2 (iv_w (iv_c (by decide) : IV 1 1 1) (by decide)) (iv_w ix2 (by decide)) hH hS (lv_sub hl [2, 3, 4, 1, 0] rfl) (th_up iv83_4 ex2 (by decide) hn83)
      have J120 : ∀ (H : Heap) (locs : List Loc) (ls : Array Slot), th_H D cT T (kd q) H → va_S (th_A T [2, 56, 57]) s.heap H locs → lv_has ls 7 [] → W p l e (rmk 56 1428) s m [.ref a0, .int y1, .int y2].toArray below meth c H locs 0 0 (MQ below (th_Q D cT T (kd q) (th_R T (some (.inl (0, 1)))) [2, 56, 57]) [.ref a0, .int y1, .int y2].toArray s 0 0 (th_A T [2, 56, 57])) (F0 m 120 ls []) := by
        intro H locs ls hH hS hl
        refine lv_iconst (v := 1) hx hb dX6_climb_120 (by decide) ?_
        exact th_zret S hK hH hS hr hlocks (iv_w (iv_c (by decide) : IV 1 1 1) (by decide)) (th_R.i (iv_w (iv_c (by decide) : IV 1 1 1) (by decide))) dX6_climb_121
      refine lv_iload hx hb dX6_climb_83 (lv_at hl 4 rfl) ?_
      refine lv_aload_n hx hb dX6_climb_85 rfl (lv_at hl 0 rfl) ?_
      refine th_get S hK hH inG6 t0 kd_2 rfl 0 (by decide) gm_339 rfl rfl dX6_climb_86 (fun v3 hv3 fv3 => ?_)
      obtain ⟨rf4, rfl, trf4⟩ := th_V.ref hv3
      refine th_get S hK hH inG8 trf4 kd_1 rfl 5 (by decide) gm_159 rfl rfl dX6_climb_89 (fun v5 hv5 fv5 => ?_)
      obtain ⟨x6, rfl, ix6⟩ := th_V.int hv5
      refine lv_icmp_ge (tgt := 178) hx hb dX6_climb_92 (by decide) (fun c7 => ?_) (fun c7 => ?_)
      · skip
        refine lv_iconst (v := 1) hx hb dX6_climb_178 (by decide) ?_
        exact th_zret S hK hH hS hr hlocks (iv_w (iv_c (by decide) : IV 1 1 1) (by decide)) (th_R.i (iv_w (iv_c (by decide) : IV 1 1 1) (by decide))) dX6_climb_179
      · skip
        have ir8 : IV v83_4 0 1600 := iv_uL iv83_4 ix6 (iv_nle c7) (by decide)
        have ir9 : IV x6 1 1601 := iv_uR iv83_4 ix6 (iv_nle c7) (by decide)
        refine lv_aload_n hx hb dX6_climb_95 rfl (lv_at hl 0 rfl) ?_
        refine th_callVi (n := 0) (As := []) S hK hH hS (th_A.sub (by decide)) (m_X6_kind l D cT T q hq a0 t0) gm_708 gm_705 gm_707 gm_5 gm_115 (by decide +kernel) ⟨rfl, rfl, Nat.le_of_ble_eq_true rfl, Nat.le_of_ble_eq_true rfl⟩ t0 kd_2 rfl rfl hl.1 rfl (Nat.le_of_ble_eq_true rfl) dX6_climb_96 ⟨Nat.zero_le _, Nat.zero_le _⟩ (fun x10 H locs ix10 hH hS hF1 => ?_)
        refine lv_istore (lv' := [(5, .int x10), (0, .ref a0), (1, .int y1), (2, .int y2), (3, .int v83_3), (4, .int v83_4)]) hx hb dX6_climb_99 hl (by decide) rfl (fun ls hl => ?_)
        refine lv_iload hx hb dX6_climb_101 (lv_at hl 0 rfl) ?_
        refine th_callSi (n := 1) (As := [.int x10]) S hK hH hS (th_A.sub (by decide)) (m_X6_levelOf l D cT T q hq (x10) ix10) gm_773 gm_771 gm_772 gm_115 (by decide +kernel) ⟨rfl, rfl, Nat.le_of_ble_eq_true rfl, Nat.le_of_ble_eq_true rfl⟩ rfl hl.1 rfl (Nat.le_of_ble_eq_true rfl) dX6_climb_103 ⟨Nat.zero_le _, Nat.zero_le _⟩ (fun x11 H locs ix11 hH hS hF1 => ?_)
        refine lv_istore (lv' := [(6, .int x11), (5, .int x10), (0, .ref a0), (1, .int y1), (2, .int y2), (3, .int v83_3), (4, .int v83_4)]) hx hb dX6_climb_106 hl (by decide) rfl (fun ls hl => ?_)
        refine lv_iload hx hb dX6_climb_108 (lv_at hl 0 rfl) ?_
        refine lv_iload_n hx hb dX6_climb_110 rfl (lv_at hl 3 rfl) ?_
        refine lv_icmp_lt (tgt := 120) hx hb dX6_climb_111 (by decide) (fun c12 => ?_) (fun c12 => ?_)
        · skip
          exact J120 H locs ls  hH hS (lv_sub hl [] rfl)
        · skip
          have ir13 : IV x11 0 4 := iv_vR j1 ix11 (iv_nlt c12) (by decide)
          have ir14 : IV y1 0 4 := iv_vL j1 ix11 (iv_nlt c12) (by decide)
          refine lv_iload hx hb dX6_climb_114 (lv_at hl 0 rfl) ?_
          refine lv_iload_n hx hb dX6_climb_116 rfl (lv_at hl 5 rfl) ?_
          refine lv_icmp_le (tgt := 122) hx hb dX6_climb_117 (by decide) (fun c15 => ?_) (fun c15 => ?_)
          · skip
            refine lv_aload_n hx hb dX6_climb_122 rfl (lv_at hl 2 rfl) ?_
            refine lv_dup hx hb dX6_climb_123 rfl ?_
            refine th_get S hK hH inG6 t0 kd_2 rfl 2 (by decide) gm_342 rfl rfl dX6_climb_124 (fun v16 hv16 fv16 => ?_)
            obtain ⟨x17, rfl, ix17⟩ := th_V.int hv16
            refine lv_iconst (v := 1) hx hb dX6_climb_127 (by decide) ?_
            refine lv_iadd hx hb dX6_climb_128 ?_
            refine lv_topi (fun x18 ex18 => ?_)
            have ix18 := iv_top x18
            refine th_put S hK hH hS ⟨2, by decide, t0⟩ inG6 tyX6 tyX6_ok nmX6 t0 kd_2 rfl 2 (by decide) gm_342 rfl rfl rfl rfl (th_iv ix18) (fun _ _ => trivial) (ty := .int) (by decide +kernel) rfl rfl dX6_climb_129 (fun H locs hH hS hq1 hp1 => ?_)
            have f19 := hp1.1
            refine lv_aload_n hx hb dX6_climb_132 rfl (lv_at hl 2 rfl) ?_
            refine lv_iload hx hb dX6_climb_133 (lv_at hl 0 rfl) ?_
            refine lv_iconst (v := 1) hx hb dX6_climb_135 (by decide) ?_
            refine lv_iadd hx hb dX6_climb_136 ?_
            refine lv_topi (fun x20 ex20 => ?_)
            have ix20 : IV x20 1 5 := by rw [ex20]; exact iv_add ir13 (iv_c (by decide) : IV 1 1 1) (by decide)
            refine lv_iload_n hx hb dX6_climb_137 rfl (lv_at hl 4 rfl) ?_
            refine th_callVi (n := 2) (As := [.int x20, .int y2]) S hK hH hS (th_A.sub (by decide)) (m_X6_climb_d0l1 l D cT T q hq a0 t0 (x20) ix20 (y2) j2) gm_762 gm_759 gm_761 gm_15 gm_115 (by decide +kernel) ⟨rfl, rfl, Nat.le_of_ble_eq_true rfl, Nat.le_of_ble_eq_true rfl⟩ t0 kd_2 rfl rfl hl.1 rfl (Nat.le_of_ble_eq_true rfl) dX6_climb_138 ⟨Nat.zero_le _, Nat.zero_le _⟩ (fun x21 H locs ix21 hH hS hF1 => ?_)
            refine lv_if_ne (tgt := 146) hx hb dX6_climb_141 (by decide) (fun c22 => ?_) (fun c22 => ?_)
            · skip
              have ir23 : IV x21 1 1 := iv_cutL ix21 (iv_c (by decide) : IV 0 0 0) c22 (by decide)
              refine lv_aload_n hx hb dX6_climb_146 rfl (lv_at hl 2 rfl) ?_
              refine th_get S hK hH inG6 t0 kd_2 rfl 1 (by decide) gm_340 rfl rfl dX6_climb_147 (fun v24 hv24 fv24 => ?_)
              obtain ⟨rf25, rfl, trf25⟩ := th_V.ref hv24
              refine th_get S hK hH inG4 trf25 kd_46 rfl 9 (by decide) gm_269 rfl rfl dX6_climb_150 (fun v26 hv26 fv26 => ?_)
              obtain ⟨rf27, rfl, trf27⟩ := th_V.ref hv26
              refine lv_iload hx hb dX6_climb_153 (lv_at hl 1 rfl) ?_
              refine lv_ineg hx hb dX6_climb_155 ?_
              refine lv_topi (fun x28 ex28 => ?_)
              have ix28 := iv_top x28
              refine th_callVv (n := 1) (As := [.int x28]) S hK hH hS (th_A.sub (by decide)) (m_X2_add l D cT T q hq rf27 trf27 (x28) ix28) gm_766 gm_763 gm_764 gm_765 gm_117 (by decide +kernel) ⟨rfl, rfl, Nat.le_of_ble_eq_true rfl, Nat.le_of_ble_eq_true rfl⟩ trf27 kd_56 rfl rfl hl.1 rfl (Nat.le_of_ble_eq_true rfl) dX6_climb_156 ⟨Nat.zero_le _, Nat.zero_le _⟩ (fun H locs hH hS hF1 => ?_)
              have f29 := fv24.kept (hF1 _ fv24.lt (th_off t0 (by decide)))
              have f30 := fv26.kept (hF1 _ fv26.lt (th_off trf25 (by decide)))
              refine lv_iload hx hb dX6_climb_159 (lv_at hl 0 rfl) ?_
              refine lv_iconst (v := 2) hx hb dX6_climb_161 (by decide) ?_
              refine lv_icmp_ne (tgt := 169) hx hb dX6_climb_162 (by decide) (fun c31 => ?_) (fun c31 => ?_)
              · skip
                refine lv_iload hx hb dX6_climb_169 (lv_at hl 0 rfl) ?_
                exact J171 H locs ls x11 ir13 ir8 ir14 hH hS (lv_sub hl [2, 3, 4, 6] rfl)
              · skip
                have ir32 : IV x11 2 2 := iv_eL c31 (iv_c (by decide) : IV 2 2 2)
                refine lv_iconst (v := 1) hx hb dX6_climb_165 (by decide) ?_
                refine lv_goto (tgt := 171) hx hb dX6_climb_166 (by decide) ?_
                exact J171_s0_1 H locs ls ir8 ir14 hH hS (lv_sub hl [2, 3, 4, 6] rfl)
            · skip
              have ir33 : IV x21 0 0 := iv_eL c22 (iv_c (by decide) : IV 0 0 0)
              refine lv_iconst (v := 0) hx hb dX6_climb_144 (by decide) ?_
              exact th_zret S hK hH hS hr hlocks (iv_w (iv_c (by decide) : IV 0 0 0) (by decide)) (th_R.i (iv_w (iv_c (by decide) : IV 0 0 0) (by decide))) dX6_climb_145
          · skip
            have ir34 : IV v83_3 0 3 := iv_uL iv83_3 ir13 (iv_nle c15) (by decide)
            have ir35 : IV x11 1 4 := iv_uR iv83_3 ir13 (iv_nle c15) (by decide)
            exact J120 H locs ls  hH hS (lv_sub hl [] rfl)
  have J80 : ∀ (H : Heap) (locs : List Loc) (ls : Array Slot) (v80_3 : Int32), IV v80_3 1 4 → th_H D cT T (kd q) H → va_S (th_A T [2, 56, 57]) s.heap H locs → lv_has ls 7 [(0, .ref a0), (1, .int y1), (2, .int y2), (3, .int v80_3)] → W p l e (rmk 56 1428) s m [.ref a0, .int y1, .int y2].toArray below meth c H locs 0 0 (MQ below (th_Q D cT T (kd q) (th_R T (some (.inl (0, 1)))) [2, 56, 57]) [.ref a0, .int y1, .int y2].toArray s 0 0 (th_A T [2, 56, 57])) (F0 m 80 ls []) := by
    intro H locs ls v80_3 iv80_3 hH hS hl
    refine lv_iconst (v := 0) hx hb dX6_climb_80 (by decide) ?_
    refine lv_istore (lv' := [(4, .int 0), (0, .ref a0), (1, .int y1), (2, .int y2), (3, .int v80_3)]) hx hb dX6_climb_81 hl (by decide) rfl (fun ls hl => ?_)
    exact J83 ((1601 + 1 - Int32.toInt 0).toNat + 1) H locs ls v80_3 0 (iv_w iv80_3 (by decide)) (iv_w (iv_c (by decide) : IV 0 0 0) (by decide)) hH hS (lv_sub hl [1, 2, 3, 4, 0] rfl) (Nat.lt_succ_self _)
  have J70 : ∀ (H : Heap) (locs : List Loc) (ls : Array Slot) (v70_3 : Int32), IV v70_3 4 4 → th_H D cT T (kd q) H → va_S (th_A T [2, 56, 57]) s.heap H locs → lv_has ls 7 [(0, .ref a0), (1, .int y1), (2, .int y2), (3, .int v70_3)] → W p l e (rmk 56 1428) s m [.ref a0, .int y1, .int y2].toArray below meth c H locs 0 0 (MQ below (th_Q D cT T (kd q) (th_R T (some (.inl (0, 1)))) [2, 56, 57]) [.ref a0, .int y1, .int y2].toArray s 0 0 (th_A T [2, 56, 57])) (F0 m 70 ls []) := by
    intro H locs ls v70_3 iv70_3 hH hS hl
    refine lv_aload_n hx hb dX6_climb_70 rfl (lv_at hl 0 rfl) ?_
    refine lv_iload_n hx hb dX6_climb_71 rfl (lv_at hl 2 rfl) ?_
    refine th_callVi (n := 1) (As := [.int y2]) S hK hH hS (th_A.sub (by decide)) (m_X6_unit_d0 l D cT T q hq a0 t0 (y2) j2) gm_770 gm_767 gm_769 gm_16 gm_115 (by decide +kernel) ⟨rfl, rfl, Nat.le_of_ble_eq_true rfl, Nat.le_of_ble_eq_true rfl⟩ t0 kd_2 rfl rfl hl.1 rfl (Nat.le_of_ble_eq_true rfl) dX6_climb_72 ⟨Nat.zero_le _, Nat.zero_le _⟩ (fun x36 H locs ix36 hH hS hF1 => ?_)
    refine lv_if_ne (tgt := 80) hx hb dX6_climb_75 (by decide) (fun c37 => ?_) (fun c37 => ?_)
    · skip
      have ir38 : IV x36 1 1 := iv_cutL ix36 (iv_c (by decide) : IV 0 0 0) c37 (by decide)
      exact J80 H locs ls v70_3 (iv_w iv70_3 (by decide)) hH hS (lv_sub hl [0, 1, 2, 3] rfl)
    · skip
      have ir39 : IV x36 0 0 := iv_eL c37 (iv_c (by decide) : IV 0 0 0)
      refine lv_iconst (v := 0) hx hb dX6_climb_78 (by decide) ?_
      exact th_zret S hK hH hS hr hlocks (iv_w (iv_c (by decide) : IV 0 0 0) (by decide)) (th_R.i (iv_w (iv_c (by decide) : IV 0 0 0) (by decide))) dX6_climb_79
  have J0 : ∀ (H : Heap) (locs : List Loc) (ls : Array Slot), th_H D cT T (kd q) H → va_S (th_A T [2, 56, 57]) s.heap H locs → lv_has ls 7 [(0, .ref a0), (1, .int y1), (2, .int y2)] → W p l e (rmk 56 1428) s m [.ref a0, .int y1, .int y2].toArray below meth c H locs 0 0 (MQ below (th_Q D cT T (kd q) (th_R T (some (.inl (0, 1)))) [2, 56, 57]) [.ref a0, .int y1, .int y2].toArray s 0 0 (th_A T [2, 56, 57])) (F0 m 0 ls []) := by
    intro H locs ls hH hS hl
    refine lv_iconst (v := 4) hx hb dX6_climb_0 (by decide) ?_
    refine lv_istore_n (lv' := [(3, .int 4), (0, .ref a0), (1, .int y1), (2, .int y2)]) hx hb dX6_climb_1 rfl hl (by decide) rfl (fun ls hl => ?_)
    refine lv_aload_n hx hb dX6_climb_2 rfl (lv_at hl 1 rfl) ?_
    refine th_callVi (n := 0) (As := []) S hK hH hS (th_A.sub (by decide)) (m_X6_kind l D cT T q hq a0 t0) gm_708 gm_705 gm_707 gm_5 gm_115 (by decide +kernel) ⟨rfl, rfl, Nat.le_of_ble_eq_true rfl, Nat.le_of_ble_eq_true rfl⟩ t0 kd_2 rfl rfl hl.1 rfl (Nat.le_of_ble_eq_true rfl) dX6_climb_3 ⟨Nat.zero_le _, Nat.zero_le _⟩ (fun x40 H locs ix40 hH hS hF1 => ?_)
    refine lv_sipush (v := 149) hx hb dX6_climb_6 (by decide) ?_
    refine lv_icmp_ne (tgt := 70) hx hb dX6_climb_9 (by decide) (fun c41 => ?_) (fun c41 => ?_)
    · skip
      exact J70 H locs ls 4 (iv_c (by decide) : IV 4 4 4) hH hS (lv_sub hl [1, 2, 3, 0] rfl)
    · skip
      have ir42 : IV x40 149 149 := iv_eL c41 (iv_c (by decide) : IV 149 149 149)
      refine lv_iload_n hx hb dX6_climb_12 rfl (lv_at hl 2 rfl) ?_
      refine lv_iconst (v := 2) hx hb dX6_climb_13 (by decide) ?_
      refine lv_icmp_gt (tgt := 70) hx hb dX6_climb_14 (by decide) (fun c43 => ?_) (fun c43 => ?_)
      · skip
        have ir44 : IV y1 3 5 := iv_uR (iv_c (by decide) : IV 2 2 2) j1 (iv_lt c43) (by decide)
        exact J70 H locs ls 4 (iv_c (by decide) : IV 4 4 4) hH hS (lv_sub hl [1, 2, 3, 0] rfl)
      · skip
        have ir45 : IV y1 0 2 := iv_vL j1 (iv_c (by decide) : IV 2 2 2) (iv_nlt c43) (by decide)
        refine lv_iload_n hx hb dX6_climb_17 rfl (lv_at hl 3 rfl) ?_
        refine lv_bipush (v := 7) hx hb dX6_climb_18 (by decide) ?_
        refine lv_icmp_lt (tgt := 29) hx hb dX6_climb_20 (by decide) (fun c46 => ?_) (fun c46 => ?_)
        · skip
          refine lv_aload_n hx hb dX6_climb_29 rfl (lv_at hl 1 rfl) ?_
          refine lv_dup hx hb dX6_climb_30 rfl ?_
          refine th_get S hK hH inG6 t0 kd_2 rfl 2 (by decide) gm_342 rfl rfl dX6_climb_31 (fun v47 hv47 fv47 => ?_)
          obtain ⟨x48, rfl, ix48⟩ := th_V.int hv47
          refine lv_iconst (v := 1) hx hb dX6_climb_34 (by decide) ?_
          refine lv_iadd hx hb dX6_climb_35 ?_
          refine lv_topi (fun x49 ex49 => ?_)
          have ix49 := iv_top x49
          refine th_put S hK hH hS ⟨2, by decide, t0⟩ inG6 tyX6 tyX6_ok nmX6 t0 kd_2 rfl 2 (by decide) gm_342 rfl rfl rfl rfl (th_iv ix49) (fun _ _ => trivial) (ty := .int) (by decide +kernel) rfl rfl dX6_climb_36 (fun H locs hH hS hq1 hp1 => ?_)
          have f50 := hp1.1
          refine lv_aload_n hx hb dX6_climb_39 rfl (lv_at hl 1 rfl) ?_
          refine lv_iconst (v := 2) hx hb dX6_climb_40 (by decide) ?_
          refine lv_iload_n hx hb dX6_climb_41 rfl (lv_at hl 3 rfl) ?_
          refine lv_iconst (v := 1) hx hb dX6_climb_42 (by decide) ?_
          refine lv_iadd hx hb dX6_climb_43 ?_
          refine lv_topi (fun x51 ex51 => ?_)
          have ix51 : IV x51 1 1 := by rw [ex51]; exact iv_add j2 (iv_c (by decide) : IV 1 1 1) (by decide)
          refine th_callVi (n := 2) (As := [.int 2, .int x51]) S hK hH hS (th_A.sub (by decide)) (m_X6_climb_d1l2 l D cT T q hq a0 t0 (2) (iv_w (iv_c (by decide) : IV 2 2 2) (by decide)) (x51) ix51) gm_762 gm_759 gm_761 gm_15 gm_115 (by decide +kernel) ⟨rfl, rfl, Nat.le_of_ble_eq_true rfl, Nat.le_of_ble_eq_true rfl⟩ t0 kd_2 rfl rfl hl.1 rfl (Nat.le_of_ble_eq_true rfl) dX6_climb_44 ⟨Nat.zero_le _, Nat.zero_le _⟩ (fun x52 H locs ix52 hH hS hF1 => ?_)
          refine lv_if_ne (tgt := 52) hx hb dX6_climb_47 (by decide) (fun c53 => ?_) (fun c53 => ?_)
          · skip
            have ir54 : IV x52 1 1 := iv_cutL ix52 (iv_c (by decide) : IV 0 0 0) c53 (by decide)
            refine lv_aload_n hx hb dX6_climb_52 rfl (lv_at hl 1 rfl) ?_
            refine th_get S hK hH inG6 t0 kd_2 rfl 1 (by decide) gm_340 rfl rfl dX6_climb_53 (fun v55 hv55 fv55 => ?_)
            obtain ⟨rf56, rfl, trf56⟩ := th_V.ref hv55
            refine th_get S hK hH inG4 trf56 kd_46 rfl 9 (by decide) gm_269 rfl rfl dX6_climb_56 (fun v57 hv57 fv57 => ?_)
            obtain ⟨rf58, rfl, trf58⟩ := th_V.ref hv57
            refine lv_sipush (v := (-149)) hx hb dX6_climb_59 (by decide) ?_
            refine th_callVv (n := 1) (As := [.int (-149)]) S hK hH hS (th_A.sub (by decide)) (m_X2_add l D cT T q hq rf58 trf58 ((-149)) (iv_top _)) gm_766 gm_763 gm_764 gm_765 gm_117 (by decide +kernel) ⟨rfl, rfl, Nat.le_of_ble_eq_true rfl, Nat.le_of_ble_eq_true rfl⟩ trf58 kd_56 rfl rfl hl.1 rfl (Nat.le_of_ble_eq_true rfl) dX6_climb_62 ⟨Nat.zero_le _, Nat.zero_le _⟩ (fun H locs hH hS hF1 => ?_)
            have f59 := fv55.kept (hF1 _ fv55.lt (th_off t0 (by decide)))
            have f60 := fv57.kept (hF1 _ fv57.lt (th_off trf56 (by decide)))
            refine lv_iconst (v := 1) hx hb dX6_climb_65 (by decide) ?_
            refine lv_istore_n (lv' := [(3, .int 1), (0, .ref a0), (1, .int y1), (2, .int y2)]) hx hb dX6_climb_66 rfl hl (by decide) rfl (fun ls hl => ?_)
            refine lv_goto (tgt := 80) hx hb dX6_climb_67 (by decide) ?_
            exact J80 H locs ls 1 (iv_w (iv_c (by decide) : IV 1 1 1) (by decide)) hH hS (lv_sub hl [1, 2, 3, 0] rfl)
          · skip
            have ir61 : IV x52 0 0 := iv_eL c53 (iv_c (by decide) : IV 0 0 0)
            refine lv_iconst (v := 0) hx hb dX6_climb_50 (by decide) ?_
            exact th_zret S hK hH hS hr hlocks (iv_w (iv_c (by decide) : IV 0 0 0) (by decide)) (th_R.i (iv_w (iv_c (by decide) : IV 0 0 0) (by decide))) dX6_climb_51
        · skip
          exfalso
          have z1 := iv_nlt c46
          have z2 := (j2).1
          have z3 := (j2).2
          have z4 := ((iv_c (by decide) : IV 7 7 7)).1
          have z5 := ((iv_c (by decide) : IV 7 7 7)).2
          omega
  exact J0 s.heap [] ls hH va_S.rf hl

set_option maxRecDepth 100000 in
theorem m_X6_formula (l : Launch) (D : va_G) (cT : Nat → ClassId) (T : Nat → Option Nat) (q : Nat → Int) (hq : qok q) (a0 : Nat) (t0 : T a0 = some 2) (y1 : Int32) (j1 : IV y1 0 4) : th_Met l D cT T (kd q) yX6_formula cX6_formula 2 (some .boolean) (rmk 57 1454) [.ref a0, .int y1] (th_R T (some (.inl (0, 1)))) [2, 56, 57, 58, 59] := by
  refine th_start (by decide) (Nat.le_of_ble_eq_true rfl) ?_
  intro p e s m below meth c ls S hK hH hr hlocks hnm hl
  have hx := S.1
  have hb := S.2.1
  have hl : lv_has ls 2 [(0, .ref a0), (1, .int y1)] := hl
  have J0 : ∀ (H : Heap) (locs : List Loc) (ls : Array Slot), th_H D cT T (kd q) H → va_S (th_A T [2, 56, 57, 58, 59]) s.heap H locs → lv_has ls 2 [(0, .ref a0), (1, .int y1)] → W p l e (rmk 57 1454) s m [.ref a0, .int y1].toArray below meth c H locs 0 0 (MQ below (th_Q D cT T (kd q) (th_R T (some (.inl (0, 1)))) [2, 56, 57, 58, 59]) [.ref a0, .int y1].toArray s 0 0 (th_A T [2, 56, 57, 58, 59])) (F0 m 0 ls []) := by
    intro H locs ls hH hS hl
    refine lv_aload_n hx hb dX6_formula_0 rfl (lv_at hl 0 rfl) ?_
    refine lv_iconst (v := 0) hx hb dX6_formula_1 (by decide) ?_
    refine th_put S hK hH hS ⟨2, by decide, t0⟩ inG6 tyX6 tyX6_ok nmX6 t0 kd_2 rfl 3 (by decide) gm_343 rfl rfl rfl rfl (th_iv (iv_top _)) (fun _ _ => trivial) (ty := .int) (by decide +kernel) rfl rfl dX6_formula_2 (fun H locs hH hS hq1 hp1 => ?_)
    refine lv_aload_n hx hb dX6_formula_5 rfl (lv_at hl 0 rfl) ?_
    refine th_get S hK hH inG6 t0 kd_2 rfl 1 (by decide) gm_340 rfl rfl dX6_formula_6 (fun v1 hv1 fv1 => ?_)
    obtain ⟨rf2, rfl, trf2⟩ := th_V.ref hv1
    refine th_get S hK hH inG4 trf2 kd_46 rfl 9 (by decide) gm_269 rfl rfl dX6_formula_9 (fun v3 hv3 fv3 => ?_)
    obtain ⟨rf4, rfl, trf4⟩ := th_V.ref hv3
    refine lv_iload_n hx hb dX6_formula_12 rfl (lv_at hl 1 rfl) ?_
    refine th_callVv (n := 1) (As := [.int y1]) S hK hH hS (th_A.sub (by decide)) (m_X2_open l D cT T q hq rf4 trf4 (y1) (iv_top _)) gm_758 gm_755 gm_756 gm_757 gm_117 (by decide +kernel) ⟨rfl, rfl, Nat.le_of_ble_eq_true rfl, Nat.le_of_ble_eq_true rfl⟩ trf4 kd_56 rfl rfl hl.1 rfl (Nat.le_of_ble_eq_true rfl) dX6_formula_13 ⟨Nat.zero_le _, Nat.zero_le _⟩ (fun H locs hH hS hF1 => ?_)
    have f5 := fv1.kept (hF1 _ fv1.lt (th_off t0 (by decide)))
    have f6 := fv3.kept (hF1 _ fv3.lt (th_off trf2 (by decide)))
    refine lv_aload_n hx hb dX6_formula_16 rfl (lv_at hl 0 rfl) ?_
    refine lv_iconst (v := 0) hx hb dX6_formula_17 (by decide) ?_
    refine lv_iconst (v := 0) hx hb dX6_formula_18 (by decide) ?_
    refine th_callVi (n := 2) (As := [.int 0, .int 0]) S hK hH hS (th_A.sub (by decide)) (m_X6_climb_d0l0 l D cT T q hq a0 t0 (0) (iv_w (iv_c (by decide) : IV 0 0 0) (by decide)) (0) (iv_c (by decide) : IV 0 0 0)) gm_762 gm_759 gm_761 gm_15 gm_115 (by decide +kernel) ⟨rfl, rfl, Nat.le_of_ble_eq_true rfl, Nat.le_of_ble_eq_true rfl⟩ t0 kd_2 rfl rfl hl.1 rfl (Nat.le_of_ble_eq_true rfl) dX6_formula_19 ⟨Nat.zero_le _, Nat.zero_le _⟩ (fun x7 H locs ix7 hH hS hF1 => ?_)
    have f8 := f6.kept (hF1 _ f6.lt (th_off trf2 (by decide)))
    refine lv_if_ne (tgt := 27) hx hb dX6_formula_22 (by decide) (fun c9 => ?_) (fun c9 => ?_)
    · skip
      have ir10 : IV x7 1 1 := iv_cutL ix7 (iv_c (by decide) : IV 0 0 0) c9 (by decide)
      refine lv_aload_n hx hb dX6_formula_27 rfl (lv_at hl 0 rfl) ?_
      refine th_get S hK hH inG6 t0 kd_2 rfl 1 (by decide) gm_340 rfl rfl dX6_formula_28 (fun v11 hv11 fv11 => ?_)
      obtain ⟨rf12, rfl, trf12⟩ := th_V.ref hv11
      refine th_get S hK hH inG4 trf12 kd_46 rfl 9 (by decide) gm_269 rfl rfl dX6_formula_31 (fun v13 hv13 fv13 => ?_)
      obtain ⟨rf14, rfl, trf14⟩ := th_V.ref hv13
      refine lv_iload_n hx hb dX6_formula_34 rfl (lv_at hl 1 rfl) ?_
      refine th_callVv (n := 1) (As := [.int y1]) S hK hH hS (th_A.sub (by decide)) (m_X2_close l D cT T q hq rf14 trf14 (y1) (iv_top _)) gm_777 gm_774 gm_775 gm_776 gm_117 (by decide +kernel) ⟨rfl, rfl, Nat.le_of_ble_eq_true rfl, Nat.le_of_ble_eq_true rfl⟩ trf14 kd_56 rfl rfl hl.1 rfl (Nat.le_of_ble_eq_true rfl) dX6_formula_35 ⟨Nat.zero_le _, Nat.zero_le _⟩ (fun H locs hH hS hF1 => ?_)
      have f15 := f8.kept (hF1 _ f8.lt (th_off trf2 (by decide)))
      have f16 := fv11.kept (hF1 _ fv11.lt (th_off t0 (by decide)))
      have f17 := fv13.kept (hF1 _ fv13.lt (th_off trf12 (by decide)))
      refine lv_iconst (v := 1) hx hb dX6_formula_38 (by decide) ?_
      exact th_zret S hK hH hS hr hlocks (iv_w (iv_c (by decide) : IV 1 1 1) (by decide)) (th_R.i (iv_w (iv_c (by decide) : IV 1 1 1) (by decide))) dX6_formula_39
    · skip
      have ir18 : IV x7 0 0 := iv_eL c9 (iv_c (by decide) : IV 0 0 0)
      refine lv_iconst (v := 0) hx hb dX6_formula_25 (by decide) ?_
      exact th_zret S hK hH hS hr hlocks (iv_w (iv_c (by decide) : IV 0 0 0) (by decide)) (th_R.i (iv_w (iv_c (by decide) : IV 0 0 0) (by decide))) dX6_formula_26
  exact J0 s.heap [] ls hH va_S.rf hl

set_option maxRecDepth 100000 in
theorem m_X6_mapLine (l : Launch) (D : va_G) (cT : Nat → ClassId) (T : Nat → Option Nat) (q : Nat → Int) (hT : tok T) (hqr : qokr q) (hp0 : q 4 ≤ 3) (a0 : Nat) (t0 : T a0 = some 2) : th_MetX l D cT T q yX6_mapLine cX6_mapLine 4 (some .boolean) (rmk 58 1475) [.ref a0] (th_R T (some (.inl (0, 1)))) [2, 29, 46, 48, 50, 56, 57, 58, 59] := by
  refine th_startX (by decide) (Nat.le_of_ble_eq_true rfl) ?_
  have hq := hqr.1
  intro p e s m below meth c ls S hK hH hr hlocks hnm hl
  have hx := S.1
  have hb := S.2.1
  have hl : lv_has ls 4 [(0, .ref a0)] := hl
  have J141 : ∀ (H : Heap) (locs : List Loc) (ls : Array Slot) (v141_1 : Int32) (v141_2 : Int32) (v141_3 : Int32), IV v141_1 0 3 → IV v141_2 0 2147483647 → IV v141_3 0 2147483647 → th_H D cT T (kd q) H → va_S (th_A T [2, 29, 46, 48, 50, 56, 57, 58, 59]) s.heap H locs → lv_has ls 4 [(0, .ref a0), (1, .int v141_1), (2, .int v141_2), (3, .int v141_3)] → W p l e (rmk 58 1475) s m [.ref a0].toArray below meth c H locs 0 0 (MQ below (th_QX D cT T q (th_R T (some (.inl (0, 1)))) [2, 29, 46, 48, 50, 56, 57, 58, 59]) [.ref a0].toArray s 0 0 (th_A T [2, 29, 46, 48, 50, 56, 57, 58, 59])) (F0 m 141 ls []) := by
    intro H locs ls v141_1 v141_2 v141_3 iv141_1 iv141_2 iv141_3 hH hS hl
    refine lv_aload_n hx hb dX6_mapLine_141 rfl (lv_at hl 0 rfl) ?_
    refine th_get S hK hH inG6 t0 kd_2 rfl 1 (by decide) gm_340 rfl rfl dX6_mapLine_142 (fun v1 hv1 fv1 => ?_)
    obtain ⟨rf2, rfl, trf2⟩ := th_V.ref hv1
    refine th_get S hK hH inG4 trf2 kd_46 rfl 3 (by decide) gm_242 rfl rfl dX6_mapLine_145 (fun v3 hv3 fv3 => ?_)
    obtain ⟨rf4, rfl, trf4⟩ := th_V.ref hv3
    refine lv_iload_n hx hb dX6_mapLine_148 rfl (lv_at hl 1 rfl) ?_
    refine lv_iload_n hx hb dX6_mapLine_149 rfl (lv_at hl 2 rfl) ?_
    refine th_iast S hK hH hS ⟨50, by decide, trf4⟩ trf4 kd_50 (th_in (hi := 3) iv141_1 (by decide)) (th_iv (iv_top _)) dX6_mapLine_150 (fun H locs hH hS hq1 => ?_)
    have f5 := fv1.kept (hq1 _ (th_ne t0 trf4 (by decide)))
    refine lv_aload_n hx hb dX6_mapLine_151 rfl (lv_at hl 0 rfl) ?_
    refine th_getK S hK f5 inG6 rfl (by decide) gm_340 rfl dX6_mapLine_152 ?_
    refine th_get S hK hH inG4 trf2 kd_46 rfl 10 (by decide) gm_272 rfl rfl dX6_mapLine_155 (fun v7 hv7 fv7 => ?_)
    obtain ⟨rf8, rfl, trf8⟩ := th_V.ref hv7
    refine th_get S hK hH inG7 trf8 kd_10 rfl 0 (by decide) gm_229 rfl rfl dX6_mapLine_158 (fun v9 hv9 fv9 => ?_)
    obtain ⟨rf10, rfl, trf10⟩ := th_V.ref hv9
    refine lv_bipush (v := 35) hx hb dX6_mapLine_161 (by decide) ?_
    refine lv_iload_n hx hb dX6_mapLine_163 rfl (lv_at hl 1 rfl) ?_
    refine lv_iadd hx hb dX6_mapLine_164 ?_
    refine lv_topi (fun x11 ex11 => ?_)
    have ix11 : IV x11 35 38 := by rw [ex11]; exact iv_add (iv_c (by decide) : IV 35 35 35) iv141_1 (by decide)
    refine lv_iload_n hx hb dX6_mapLine_165 rfl (lv_at hl 3 rfl) ?_
    refine th_iast S hK hH hS ⟨29, by decide, trf10⟩ trf10 kd_29 (th_in (hi := 38) (iv_w ix11 (by decide)) (by decide)) (th_iv (iv_top _)) dX6_mapLine_166 (fun H locs hH hS hq1 => ?_)
    have f12 := f5.kept (hq1 _ (th_ne t0 trf10 (by decide)))
    have f13 := fv7.kept (hq1 _ (th_ne trf2 trf10 (by decide)))
    have f14 := fv9.kept (hq1 _ (th_ne trf8 trf10 (by decide)))
    refine lv_aload_n hx hb dX6_mapLine_167 rfl (lv_at hl 0 rfl) ?_
    refine th_getK S hK f12 inG6 rfl (by decide) gm_340 rfl dX6_mapLine_168 ?_
    refine lv_dup hx hb dX6_mapLine_171 rfl ?_
    refine th_get S hK hH inG4 trf2 kd_46 rfl 12 (by decide) gm_280 rfl rfl dX6_mapLine_172 (fun v16 hv16 fv16 => ?_)
    obtain ⟨x17, rfl, ix17⟩ := th_V.int hv16
    have kx17 : IV x17 (q 4) (q 4) := ix17
    have kx17a := kx17.1
    have kx17b := kx17.2
    have ix17 : IV x17 0 3 := iv_w ix17 ⟨(qok_4 hq).1, hp0⟩
    refine lv_iconst (v := 1) hx hb dX6_mapLine_175 (by decide) ?_
    refine lv_iadd hx hb dX6_mapLine_176 ?_
    refine lv_topi (fun x18 ex18 => ?_)
    have ix18 : IV x18 1 4 := by rw [ex18]; exact iv_add ix17 (iv_c (by decide) : IV 1 1 1) (by decide)
    have ux18 : x18.toInt = x17.toInt + 1 := by rw [ex18]; have z1 := (ix17).1; have z2 := (ix17).2; have z3 : (1 : Int32).toInt = 1 := rfl; have z4 := iv_addE (x := x17) (y := 1) (by omega); omega
    obtain ⟨n19, en19⟩ : ∃ z : Int, z = Int32.toInt x18 := ⟨_, rfl⟩
    have hzq20 : qok (qup q 4 n19) := qup_ok4 hq (iv_z en19 (iv_w ix18 (by decide)))
    refine th_putX (Ks2 := kd (qup q 4 n19)) S hK hH hS ⟨46, by decide, trf2⟩ inG4 tyX4 tyX4_ok nmX4 trf2 (fun b hb => hT 46 (by decide) _ _ hb trf2) kd_46 kd_46 (kd_up4 _ _) rfl 12 (by decide) gm_280 rfl rfl rfl rfl (fun i hi => match i, hi with | 0, _ => rfl | 1, _ => rfl | 2, _ => rfl | 3, _ => rfl | 4, _ => rfl | 5, _ => rfl | 6, _ => rfl | 7, _ => rfl | 8, _ => rfl | 9, _ => rfl | 10, _ => rfl | 11, _ => rfl | 12, h => absurd rfl h | 13, _ => rfl | 14, _ => rfl | 15, _ => rfl | 16, _ => rfl | 17, _ => rfl | 18, _ => rfl | _ + 19, _ => rfl) (Nat.le_of_ble_eq_true rfl) (th_selfE en19) (ty := .int) (by decide +kernel) rfl rfl dX6_mapLine_177 (fun H locs hH hS hq1 => ?_)
    have f21 := f12.kept (hq1 _ (th_ne t0 trf2 (by decide)))
    have f22 := f14.kept (hq1 _ (th_ne trf8 trf2 (by decide)))
    refine lv_iconst (v := 1) hx hb dX6_mapLine_180 (by decide) ?_
    exact th_zretX S hK hH hS hr hlocks ⟨hzq20, by have w1 := qok_1 hzq20; have w2 := qok_2 hzq20; have w3 := qok_1 hq; have w4 := qok_2 hq; have w5 := hqr.2; simp [qup] at w1 w2 ⊢; omega⟩ rfl (iv_w (iv_c (by decide) : IV 1 1 1) (by decide)) (th_R.i (iv_w (iv_c (by decide) : IV 1 1 1) (by decide))) dX6_mapLine_181
  have J102 : ∀ (H : Heap) (locs : List Loc) (ls : Array Slot) (v102_1 : Int32) (v102_2 : Int32) (v102_3 : Int32), IV v102_1 0 3 → IV v102_2 0 2147483647 → IV v102_3 0 2147483647 → th_H D cT T (kd q) H → va_S (th_A T [2, 29, 46, 48, 50, 56, 57, 58, 59]) s.heap H locs → lv_has ls 4 [(0, .ref a0), (1, .int v102_1), (2, .int v102_2), (3, .int v102_3)] → W p l e (rmk 58 1475) s m [.ref a0].toArray below meth c H locs 0 0 (MQ below (th_QX D cT T q (th_R T (some (.inl (0, 1)))) [2, 29, 46, 48, 50, 56, 57, 58, 59]) [.ref a0].toArray s 0 0 (th_A T [2, 29, 46, 48, 50, 56, 57, 58, 59])) (F0 m 102 ls []) := by
    intro H locs ls v102_1 v102_2 v102_3 iv102_1 iv102_2 iv102_3 hH hS hl
    refine lv_aload_n hx hb dX6_mapLine_102 rfl (lv_at hl 0 rfl) ?_
    refine th_callVi (n := 0) (As := []) S hK hH hS (th_A.sub (by decide)) (m_X6_kind l D cT T q hq a0 t0) gm_708 gm_705 gm_707 gm_5 gm_115 (by decide +kernel) ⟨rfl, rfl, Nat.le_of_ble_eq_true rfl, Nat.le_of_ble_eq_true rfl⟩ t0 kd_2 rfl rfl hl.1 rfl (Nat.le_of_ble_eq_true rfl) dX6_mapLine_103 ⟨Nat.zero_le _, Nat.zero_le _⟩ (fun x23 H locs ix23 hH hS hF1 => ?_)
    refine lv_sipush (v := 145) hx hb dX6_mapLine_106 (by decide) ?_
    refine lv_icmp_ne (tgt := 141) hx hb dX6_mapLine_109 (by decide) (fun c24 => ?_) (fun c24 => ?_)
    · skip
      exact J141 H locs ls v102_1 v102_2 v102_3 iv102_1 iv102_2 iv102_3 hH hS (lv_sub hl [0, 1, 2, 3] rfl)
    · skip
      have ir25 : IV x23 145 145 := iv_eL c24 (iv_c (by decide) : IV 145 145 145)
      have ir25a := ir25.1
      have ir25b := ir25.2
      refine lv_aload_n hx hb dX6_mapLine_112 rfl (lv_at hl 0 rfl) ?_
      refine lv_dup hx hb dX6_mapLine_113 rfl ?_
      refine th_get S hK hH inG6 t0 kd_2 rfl 2 (by decide) gm_342 rfl rfl dX6_mapLine_114 (fun v26 hv26 fv26 => ?_)
      obtain ⟨x27, rfl, ix27⟩ := th_V.int hv26
      refine lv_iconst (v := 1) hx hb dX6_mapLine_117 (by decide) ?_
      refine lv_iadd hx hb dX6_mapLine_118 ?_
      refine lv_topi (fun x28 ex28 => ?_)
      have ix28 := iv_top x28
      refine th_put S hK hH hS ⟨2, by decide, t0⟩ inG6 tyX6 tyX6_ok nmX6 t0 kd_2 rfl 2 (by decide) gm_342 rfl rfl rfl rfl (th_iv ix28) (fun _ _ => trivial) (ty := .int) (by decide +kernel) rfl rfl dX6_mapLine_119 (fun H locs hH hS hq1 hp1 => ?_)
      have f29 := hp1.1
      refine lv_aload_n hx hb dX6_mapLine_122 rfl (lv_at hl 0 rfl) ?_
      refine th_get S hK hH inG6 t0 kd_2 rfl 1 (by decide) gm_340 rfl rfl dX6_mapLine_123 (fun v30 hv30 fv30 => ?_)
      obtain ⟨rf31, rfl, trf31⟩ := th_V.ref hv30
      refine th_get S hK hH inG4 trf31 kd_46 rfl 10 (by decide) gm_272 rfl rfl dX6_mapLine_126 (fun v32 hv32 fv32 => ?_)
      obtain ⟨rf33, rfl, trf33⟩ := th_V.ref hv32
      refine th_get S hK hH inG7 trf33 kd_10 rfl 0 (by decide) gm_229 rfl rfl dX6_mapLine_129 (fun v34 hv34 fv34 => ?_)
      obtain ⟨rf35, rfl, trf35⟩ := th_V.ref hv34
      refine lv_bipush (v := 39) hx hb dX6_mapLine_132 (by decide) ?_
      refine lv_dup2_11 hx hb dX6_mapLine_134 rfl rfl ?_
      refine th_iald S hK hH trf35 kd_29 (th_in (hi := 39) (iv_w (iv_c (by decide) : IV 39 39 39) (by decide)) (by decide)) dX6_mapLine_135 (fun v36 hv36 => ?_)
      obtain ⟨x37, rfl, ix37⟩ := th_V.int hv36
      refine lv_iconst (v := 1) hx hb dX6_mapLine_136 (by decide) ?_
      refine lv_iload_n hx hb dX6_mapLine_137 rfl (lv_at hl 1 rfl) ?_
      refine lv_ishl hx hb dX6_mapLine_138 ?_
      refine lv_topi (fun x38 ex38 => ?_)
      have ix38 := iv_top x38
      refine lv_ior hx hb dX6_mapLine_139 ?_
      refine lv_topi (fun x39 ex39 => ?_)
      have ix39 := iv_top x39
      refine th_iast S hK hH hS ⟨29, by decide, trf35⟩ trf35 kd_29 (th_in (hi := 39) (iv_w (iv_c (by decide) : IV 39 39 39) (by decide)) (by decide)) (th_iv ix39) dX6_mapLine_140 (fun H locs hH hS hq1 => ?_)
      have f40 := f29.kept (hq1 _ (th_ne t0 trf35 (by decide)))
      have f41 := fv30.kept (hq1 _ (th_ne t0 trf35 (by decide)))
      have f42 := fv32.kept (hq1 _ (th_ne trf31 trf35 (by decide)))
      have f43 := fv34.kept (hq1 _ (th_ne trf33 trf35 (by decide)))
      exact J141 H locs ls v102_1 v102_2 v102_3 iv102_1 iv102_2 iv102_3 hH hS (lv_sub hl [0, 1, 2, 3] rfl)
  have J65 : ∀ (H : Heap) (locs : List Loc) (ls : Array Slot), th_H D cT T (kd q) H → va_S (th_A T [2, 29, 46, 48, 50, 56, 57, 58, 59]) s.heap H locs → lv_has ls 4 [] → W p l e (rmk 58 1475) s m [.ref a0].toArray below meth c H locs 0 0 (MQ below (th_QX D cT T q (th_R T (some (.inl (0, 1)))) [2, 29, 46, 48, 50, 56, 57, 58, 59]) [.ref a0].toArray s 0 0 (th_A T [2, 29, 46, 48, 50, 56, 57, 58, 59])) (F0 m 65 ls []) := by
    intro H locs ls hH hS hl
    refine lv_iconst (v := 0) hx hb dX6_mapLine_65 (by decide) ?_
    exact th_zretX S hK hH hS hr hlocks hqr rfl (iv_w (iv_c (by decide) : IV 0 0 0) (by decide)) (th_R.i (iv_w (iv_c (by decide) : IV 0 0 0) (by decide))) dX6_mapLine_66
  have J33 : ∀ (H : Heap) (locs : List Loc) (ls : Array Slot), th_H D cT T (kd q) H → va_S (th_A T [2, 29, 46, 48, 50, 56, 57, 58, 59]) s.heap H locs → lv_has ls 4 [] → W p l e (rmk 58 1475) s m [.ref a0].toArray below meth c H locs 0 0 (MQ below (th_QX D cT T q (th_R T (some (.inl (0, 1)))) [2, 29, 46, 48, 50, 56, 57, 58, 59]) [.ref a0].toArray s 0 0 (th_A T [2, 29, 46, 48, 50, 56, 57, 58, 59])) (F0 m 33 ls []) := by
    intro H locs ls hH hS hl
    refine lv_iconst (v := 0) hx hb dX6_mapLine_33 (by decide) ?_
    exact th_zretX S hK hH hS hr hlocks hqr rfl (iv_w (iv_c (by decide) : IV 0 0 0) (by decide)) (th_R.i (iv_w (iv_c (by decide) : IV 0 0 0) (by decide))) dX6_mapLine_34
  have J0 : ∀ (H : Heap) (locs : List Loc) (ls : Array Slot), th_H D cT T (kd q) H → va_S (th_A T [2, 29, 46, 48, 50, 56, 57, 58, 59]) s.heap H locs → lv_has ls 4 [(0, .ref a0)] → W p l e (rmk 58 1475) s m [.ref a0].toArray below meth c H locs 0 0 (MQ below (th_QX D cT T q (th_R T (some (.inl (0, 1)))) [2, 29, 46, 48, 50, 56, 57, 58, 59]) [.ref a0].toArray s 0 0 (th_A T [2, 29, 46, 48, 50, 56, 57, 58, 59])) (F0 m 0 ls []) := by
    intro H locs ls hH hS hl
    refine lv_aload_n hx hb dX6_mapLine_0 rfl (lv_at hl 0 rfl) ?_
    refine th_get S hK hH inG6 t0 kd_2 rfl 1 (by decide) gm_340 rfl rfl dX6_mapLine_1 (fun v44 hv44 fv44 => ?_)
    obtain ⟨rf45, rfl, trf45⟩ := th_V.ref hv44
    refine th_get S hK hH inG4 trf45 kd_46 rfl 12 (by decide) gm_280 rfl rfl dX6_mapLine_4 (fun v46 hv46 fv46 => ?_)
    obtain ⟨x47, rfl, ix47⟩ := th_V.int hv46
    have kx47 : IV x47 (q 4) (q 4) := ix47
    have kx47a := kx47.1
    have kx47b := kx47.2
    have ix47 : IV x47 0 3 := iv_w ix47 ⟨(qok_4 hq).1, hp0⟩
    refine lv_istore_n (lv' := [(1, .int x47), (0, .ref a0)]) hx hb dX6_mapLine_7 rfl hl (by decide) rfl (fun ls hl => ?_)
    refine lv_aload_n hx hb dX6_mapLine_8 rfl (lv_at hl 1 rfl) ?_
    refine lv_aload_n hx hb dX6_mapLine_9 rfl (lv_at hl 1 rfl) ?_
    refine th_getK S hK fv44 inG6 rfl (by decide) gm_340 rfl dX6_mapLine_10 ?_
    refine th_get S hK hH inG4 trf45 kd_46 rfl 1 (by decide) gm_238 rfl rfl dX6_mapLine_13 (fun v49 hv49 fv49 => ?_)
    obtain ⟨rf50, rfl, trf50⟩ := th_V.ref hv49
    refine lv_iload_n hx hb dX6_mapLine_16 rfl (lv_at hl 0 rfl) ?_
    refine th_callVi (n := 2) (As := [.ref rf50, .int x47]) S hK hH hS (th_A.sub (by decide)) (m_X6_newName_v1 l D cT T q hq a0 t0 rf50 trf50 (x47) (iv_w ix47 (by decide))) gm_730 gm_727 gm_729 gm_8 gm_115 (by decide +kernel) ⟨rfl, rfl, Nat.le_of_ble_eq_true rfl, Nat.le_of_ble_eq_true rfl⟩ t0 kd_2 rfl rfl hl.1 rfl (Nat.le_of_ble_eq_true rfl) dX6_mapLine_17 ⟨Nat.zero_le _, Nat.zero_le _⟩ (fun x51 H locs ix51 hH hS hF1 => ?_)
    have f52 := fv46.kept (hF1 _ fv46.lt (th_off trf45 (by decide)))
    refine lv_if_eq (tgt := 33) hx hb dX6_mapLine_20 (by decide) (fun c53 => ?_) (fun c53 => ?_)
    · skip
      have ir54 : IV x51 0 0 := iv_eL c53 (iv_c (by decide) : IV 0 0 0)
      have ir54a := ir54.1
      have ir54b := ir54.2
      exact J33 H locs ls  hH hS (lv_sub hl [] rfl)
    · skip
      have ir55 : IV x51 1 1 := iv_cutL ix51 (iv_c (by decide) : IV 0 0 0) c53 (by decide)
      have ir55a := ir55.1
      have ir55b := ir55.2
      refine lv_aload_n hx hb dX6_mapLine_23 rfl (lv_at hl 1 rfl) ?_
      refine lv_sipush (v := 136) hx hb dX6_mapLine_24 (by decide) ?_
      refine th_callVi (n := 1) (As := [.int 136]) S hK hH hS (th_A.sub (by decide)) (m_X6_take l D cT T q hq a0 t0 (136) (iv_top _)) gm_750 gm_747 gm_749 gm_13 gm_115 (by decide +kernel) ⟨rfl, rfl, Nat.le_of_ble_eq_true rfl, Nat.le_of_ble_eq_true rfl⟩ t0 kd_2 rfl rfl hl.1 rfl (Nat.le_of_ble_eq_true rfl) dX6_mapLine_27 ⟨Nat.zero_le _, Nat.zero_le _⟩ (fun x56 H locs ix56 hH hS hF1 => ?_)
      have f57 := f52.kept (hF1 _ f52.lt (th_off trf45 (by decide)))
      refine lv_if_ne (tgt := 35) hx hb dX6_mapLine_30 (by decide) (fun c58 => ?_) (fun c58 => ?_)
      · skip
        have ir59 : IV x56 1 1 := iv_cutL ix56 (iv_c (by decide) : IV 0 0 0) c58 (by decide)
        have ir59a := ir59.1
        have ir59b := ir59.2
        refine lv_aload_n hx hb dX6_mapLine_35 rfl (lv_at hl 1 rfl) ?_
        refine lv_iconst (v := 1) hx hb dX6_mapLine_36 (by decide) ?_
        refine lv_bipush (v := 9) hx hb dX6_mapLine_37 (by decide) ?_
        refine th_callVi (n := 2) (As := [.int 1, .int 9]) S hK hH hS (th_A.sub (by decide)) (m_X6_number l D cT T q hq a0 t0 (1) (iv_top _) (9) (iv_top _)) gm_742 gm_739 gm_741 gm_11 gm_115 (by decide +kernel) ⟨rfl, rfl, Nat.le_of_ble_eq_true rfl, Nat.le_of_ble_eq_true rfl⟩ t0 kd_2 rfl rfl hl.1 rfl (Nat.le_of_ble_eq_true rfl) dX6_mapLine_39 ⟨Nat.zero_le _, Nat.zero_le _⟩ (fun x60 H locs ix60 hH hS hF1 => ?_)
        have f61 := f57.kept (hF1 _ f57.lt (th_off trf45 (by decide)))
        refine lv_istore_n (lv' := [(2, .int x60), (1, .int x47), (0, .ref a0)]) hx hb dX6_mapLine_42 rfl hl (by decide) rfl (fun ls hl => ?_)
        refine lv_iload_n hx hb dX6_mapLine_43 rfl (lv_at hl 0 rfl) ?_
        refine lv_if_lt (tgt := 65) hx hb dX6_mapLine_44 (by decide) (fun c62 => ?_) (fun c62 => ?_)
        · skip
          have ir63 : IV x60 (-2147483648) (-1) := iv_uL ix60 (iv_c (by decide) : IV 0 0 0) (iv_lt c62) (by decide)
          have ir63a := ir63.1
          have ir63b := ir63.2
          exact J65 H locs ls  hH hS (lv_sub hl [] rfl)
        · skip
          have ir64 : IV x60 0 2147483647 := iv_vR (iv_c (by decide) : IV 0 0 0) ix60 (iv_nlt c62) (by decide)
          have ir64a := ir64.1
          have ir64b := ir64.2
          refine lv_aload_n hx hb dX6_mapLine_47 rfl (lv_at hl 2 rfl) ?_
          refine lv_sipush (v := 143) hx hb dX6_mapLine_48 (by decide) ?_
          refine th_callVi (n := 1) (As := [.int 143]) S hK hH hS (th_A.sub (by decide)) (m_X6_take l D cT T q hq a0 t0 (143) (iv_top _)) gm_750 gm_747 gm_749 gm_13 gm_115 (by decide +kernel) ⟨rfl, rfl, Nat.le_of_ble_eq_true rfl, Nat.le_of_ble_eq_true rfl⟩ t0 kd_2 rfl rfl hl.1 rfl (Nat.le_of_ble_eq_true rfl) dX6_mapLine_51 ⟨Nat.zero_le _, Nat.zero_le _⟩ (fun x65 H locs ix65 hH hS hF1 => ?_)
          have f66 := f61.kept (hF1 _ f61.lt (th_off trf45 (by decide)))
          refine lv_if_eq (tgt := 65) hx hb dX6_mapLine_54 (by decide) (fun c67 => ?_) (fun c67 => ?_)
          · skip
            have ir68 : IV x65 0 0 := iv_eL c67 (iv_c (by decide) : IV 0 0 0)
            have ir68a := ir68.1
            have ir68b := ir68.2
            exact J65 H locs ls  hH hS (lv_sub hl [] rfl)
          · skip
            have ir69 : IV x65 1 1 := iv_cutL ix65 (iv_c (by decide) : IV 0 0 0) c67 (by decide)
            have ir69a := ir69.1
            have ir69b := ir69.2
            refine lv_aload_n hx hb dX6_mapLine_57 rfl (lv_at hl 2 rfl) ?_
            refine lv_iload_n hx hb dX6_mapLine_58 rfl (lv_at hl 1 rfl) ?_
            refine th_callVi (n := 1) (As := [.int x47]) S hK hH hS (th_A.sub (by decide)) (m_X6_formula l D cT T q hq a0 t0 (x47) (iv_w ix47 (by decide))) gm_754 gm_751 gm_753 gm_14 gm_115 (by decide +kernel) ⟨rfl, rfl, Nat.le_of_ble_eq_true rfl, Nat.le_of_ble_eq_true rfl⟩ t0 kd_2 rfl rfl hl.1 rfl (Nat.le_of_ble_eq_true rfl) dX6_mapLine_59 ⟨Nat.zero_le _, Nat.zero_le _⟩ (fun x70 H locs ix70 hH hS hF1 => ?_)
            have f71 := f66.kept (hF1 _ f66.lt (th_off trf45 (by decide)))
            refine lv_if_ne (tgt := 67) hx hb dX6_mapLine_62 (by decide) (fun c72 => ?_) (fun c72 => ?_)
            · skip
              have ir73 : IV x70 1 1 := iv_cutL ix70 (iv_c (by decide) : IV 0 0 0) c72 (by decide)
              have ir73a := ir73.1
              have ir73b := ir73.2
              refine lv_iconst (v := 0) hx hb dX6_mapLine_67 (by decide) ?_
              refine lv_istore_n (lv' := [(3, .int 0), (2, .int x60), (1, .int x47), (0, .ref a0)]) hx hb dX6_mapLine_68 rfl hl (by decide) rfl (fun ls hl => ?_)
              refine lv_aload_n hx hb dX6_mapLine_69 rfl (lv_at hl 3 rfl) ?_
              refine th_callVi (n := 0) (As := []) S hK hH hS (th_A.sub (by decide)) (m_X6_kind l D cT T q hq a0 t0) gm_708 gm_705 gm_707 gm_5 gm_115 (by decide +kernel) ⟨rfl, rfl, Nat.le_of_ble_eq_true rfl, Nat.le_of_ble_eq_true rfl⟩ t0 kd_2 rfl rfl hl.1 rfl (Nat.le_of_ble_eq_true rfl) dX6_mapLine_70 ⟨Nat.zero_le _, Nat.zero_le _⟩ (fun x74 H locs ix74 hH hS hF1 => ?_)
              have f75 := f71.kept (hF1 _ f71.lt (th_off trf45 (by decide)))
              refine lv_sipush (v := 144) hx hb dX6_mapLine_73 (by decide) ?_
              refine lv_icmp_ne (tgt := 102) hx hb dX6_mapLine_76 (by decide) (fun c76 => ?_) (fun c76 => ?_)
              · skip
                exact J102 H locs ls x47 x60 0 ix47 ir64 (iv_w (iv_c (by decide) : IV 0 0 0) (by decide)) hH hS (lv_sub hl [3, 2, 1, 0] rfl)
              · skip
                have ir77 : IV x74 144 144 := iv_eL c76 (iv_c (by decide) : IV 144 144 144)
                have ir77a := ir77.1
                have ir77b := ir77.2
                refine lv_aload_n hx hb dX6_mapLine_79 rfl (lv_at hl 3 rfl) ?_
                refine lv_dup hx hb dX6_mapLine_80 rfl ?_
                refine th_get S hK hH inG6 t0 kd_2 rfl 2 (by decide) gm_342 rfl rfl dX6_mapLine_81 (fun v78 hv78 fv78 => ?_)
                obtain ⟨x79, rfl, ix79⟩ := th_V.int hv78
                refine lv_iconst (v := 1) hx hb dX6_mapLine_84 (by decide) ?_
                refine lv_iadd hx hb dX6_mapLine_85 ?_
                refine lv_topi (fun x80 ex80 => ?_)
                have ix80 := iv_top x80
                refine th_put S hK hH hS ⟨2, by decide, t0⟩ inG6 tyX6 tyX6_ok nmX6 t0 kd_2 rfl 2 (by decide) gm_342 rfl rfl rfl rfl (th_iv ix80) (fun _ _ => trivial) (ty := .int) (by decide +kernel) rfl rfl dX6_mapLine_86 (fun H locs hH hS hq1 hp1 => ?_)
                have f81 := f75.kept (hq1 _ (th_ne trf45 t0 (by decide)))
                have f82 := hp1.1
                refine lv_aload_n hx hb dX6_mapLine_89 rfl (lv_at hl 3 rfl) ?_
                refine lv_iconst (v := 0) hx hb dX6_mapLine_90 (by decide) ?_
                refine lv_iconst (v := 3) hx hb dX6_mapLine_91 (by decide) ?_
                refine th_callVi (n := 2) (As := [.int 0, .int 3]) S hK hH hS (th_A.sub (by decide)) (m_X6_number l D cT T q hq a0 t0 (0) (iv_top _) (3) (iv_top _)) gm_742 gm_739 gm_741 gm_11 gm_115 (by decide +kernel) ⟨rfl, rfl, Nat.le_of_ble_eq_true rfl, Nat.le_of_ble_eq_true rfl⟩ t0 kd_2 rfl rfl hl.1 rfl (Nat.le_of_ble_eq_true rfl) dX6_mapLine_92 ⟨Nat.zero_le _, Nat.zero_le _⟩ (fun x83 H locs ix83 hH hS hF1 => ?_)
                have f84 := f81.kept (hF1 _ f81.lt (th_off trf45 (by decide)))
                refine lv_istore_n (lv' := [(3, .int x83), (2, .int x60), (1, .int x47), (0, .ref a0)]) hx hb dX6_mapLine_95 rfl hl (by decide) rfl (fun ls hl => ?_)
                refine lv_iload_n hx hb dX6_mapLine_96 rfl (lv_at hl 0 rfl) ?_
                refine lv_if_ge (tgt := 102) hx hb dX6_mapLine_97 (by decide) (fun c85 => ?_) (fun c85 => ?_)
                · skip
                  have ir86 : IV x83 0 2147483647 := iv_vR (iv_c (by decide) : IV 0 0 0) ix83 (iv_le c85) (by decide)
                  have ir86a := ir86.1
                  have ir86b := ir86.2
                  exact J102 H locs ls x47 x60 x83 ix47 ir64 ir86 hH hS (lv_sub hl [3, 2, 1, 0] rfl)
                · skip
                  have ir87 : IV x83 (-2147483648) (-1) := iv_uL ix83 (iv_c (by decide) : IV 0 0 0) (iv_nle c85) (by decide)
                  have ir87a := ir87.1
                  have ir87b := ir87.2
                  refine lv_iconst (v := 0) hx hb dX6_mapLine_100 (by decide) ?_
                  exact th_zretX S hK hH hS hr hlocks hqr rfl (iv_w (iv_c (by decide) : IV 0 0 0) (by decide)) (th_R.i (iv_w (iv_c (by decide) : IV 0 0 0) (by decide))) dX6_mapLine_101
            · skip
              have ir88 : IV x70 0 0 := iv_eL c72 (iv_c (by decide) : IV 0 0 0)
              have ir88a := ir88.1
              have ir88b := ir88.2
              exact J65 H locs ls  hH hS (lv_sub hl [] rfl)
      · skip
        have ir89 : IV x56 0 0 := iv_eL c58 (iv_c (by decide) : IV 0 0 0)
        have ir89a := ir89.1
        have ir89b := ir89.2
        exact J33 H locs ls  hH hS (lv_sub hl [] rfl)
  exact J0 s.heap [] ls hH va_S.rf hl

set_option maxRecDepth 100000 in
theorem m_X6_knownName_v0 (l : Launch) (D : va_G) (cT : Nat → ClassId) (T : Nat → Option Nat) (q : Nat → Int) (hq : qok q) (a0 : Nat) (t0 : T a0 = some 2) (a1 : Nat) (t1 : T a1 = some 47) (y2 : Int32) (j2 : IV y2 (-2147483648) 2147483647) : th_Met l D cT T (kd q) yX6_knownName cX6_knownName 4 (some .int) (rmk 2 43) [.ref a0, .ref a1, .int y2] (th_R T (some (.inl (-1, 2)))) [2] := by
  refine th_start (by decide) (Nat.le_of_ble_eq_true rfl) ?_
  intro p e s m below meth c ls S hK hH hr hlocks hnm hl
  have hx := S.1
  have hb := S.2.1
  have hl : lv_has ls 4 [(0, .ref a0), (1, .ref a1), (2, .int y2)] := hl
  have J33 : ∀ (H : Heap) (locs : List Loc) (ls : Array Slot) (v33_3 : Int32), IV v33_3 (-1) 2 → th_H D cT T (kd q) H → va_S (th_A T [2]) s.heap H locs → lv_has ls 4 [(3, .int v33_3)] → W p l e (rmk 2 43) s m [.ref a0, .ref a1, .int y2].toArray below meth c H locs 0 0 (MQ below (th_Q D cT T (kd q) (th_R T (some (.inl (-1, 2)))) [2]) [.ref a0, .ref a1, .int y2].toArray s 0 0 (th_A T [2])) (F0 m 33 ls []) := by
    intro H locs ls v33_3 iv33_3 hH hS hl
    refine lv_iload_n hx hb dX6_knownName_33 rfl (lv_at hl 0 rfl) ?_
    exact th_iret S hK hH hS hr hlocks (th_R.i iv33_3) dX6_knownName_34
  have J0 : ∀ (H : Heap) (locs : List Loc) (ls : Array Slot), th_H D cT T (kd q) H → va_S (th_A T [2]) s.heap H locs → lv_has ls 4 [(0, .ref a0), (1, .ref a1), (2, .int y2)] → W p l e (rmk 2 43) s m [.ref a0, .ref a1, .int y2].toArray below meth c H locs 0 0 (MQ below (th_Q D cT T (kd q) (th_R T (some (.inl (-1, 2)))) [2]) [.ref a0, .ref a1, .int y2].toArray s 0 0 (th_A T [2])) (F0 m 0 ls []) := by
    intro H locs ls hH hS hl
    refine lv_aload_n hx hb dX6_knownName_0 rfl (lv_at hl 0 rfl) ?_
    refine th_callVi (n := 0) (As := []) S hK hH hS (th_A.sub (by decide)) (m_X6_kind l D cT T q hq a0 t0) gm_708 gm_705 gm_707 gm_5 gm_115 (by decide +kernel) ⟨rfl, rfl, Nat.le_of_ble_eq_true rfl, Nat.le_of_ble_eq_true rfl⟩ t0 kd_2 rfl rfl hl.1 rfl (Nat.le_of_ble_eq_true rfl) dX6_knownName_1 ⟨Nat.zero_le _, Nat.zero_le _⟩ (fun x1 H locs ix1 hH hS hF1 => ?_)
    refine lv_iconst (v := 2) hx hb dX6_knownName_4 (by decide) ?_
    refine lv_icmp_eq (tgt := 16) hx hb dX6_knownName_5 (by decide) (fun c2 => ?_) (fun c2 => ?_)
    · skip
      have ir3 : IV x1 2 2 := iv_eL c2 (iv_c (by decide) : IV 2 2 2)
      refine lv_aload_n hx hb dX6_knownName_16 rfl (lv_at hl 0 rfl) ?_
      refine lv_aload_n hx hb dX6_knownName_17 rfl (lv_at hl 1 rfl) ?_
      refine lv_iload_n hx hb dX6_knownName_18 rfl (lv_at hl 2 rfl) ?_
      refine th_callVi (n := 2) (As := [.ref a1, .int y2]) S hK hH hS (th_A.sub (by decide)) (m_X6_indexOf_v0 l D cT T q hq a0 t0 a1 t1 (y2) j2) gm_734 gm_731 gm_733 gm_9 gm_115 (by decide +kernel) ⟨rfl, rfl, Nat.le_of_ble_eq_true rfl, Nat.le_of_ble_eq_true rfl⟩ t0 kd_2 rfl rfl hl.1 rfl (Nat.le_of_ble_eq_true rfl) dX6_knownName_19 ⟨Nat.zero_le _, Nat.zero_le _⟩ (fun x4 H locs ix4 hH hS hF1 => ?_)
      refine lv_istore_n (lv' := [(3, .int x4), (0, .ref a0), (1, .ref a1), (2, .int y2)]) hx hb dX6_knownName_22 rfl hl (by decide) rfl (fun ls hl => ?_)
      refine lv_iload_n hx hb dX6_knownName_23 rfl (lv_at hl 0 rfl) ?_
      refine lv_if_ge (tgt := 33) hx hb dX6_knownName_24 (by decide) (fun c5 => ?_) (fun c5 => ?_)
      · skip
        have ir6 : IV x4 0 2 := iv_vR (iv_c (by decide) : IV 0 0 0) ix4 (iv_le c5) (by decide)
        exact J33 H locs ls x4 (iv_w ir6 (by decide)) hH hS (lv_sub hl [0] rfl)
      · skip
        have ir7 : IV x4 (-1) (-1) := iv_uL ix4 (iv_c (by decide) : IV 0 0 0) (iv_nle c5) (by decide)
        refine lv_aload_n hx hb dX6_knownName_27 rfl (lv_at hl 1 rfl) ?_
        refine lv_iconst (v := 5) hx hb dX6_knownName_28 (by decide) ?_
        refine th_callVi (n := 1) (As := [.int 5]) S hK hH hS (th_A.sub (by decide)) (m_X6_blame l D cT T q hq a0 t0 (5) (iv_top _)) gm_722 gm_719 gm_721 gm_6 gm_115 (by decide +kernel) ⟨rfl, rfl, Nat.le_of_ble_eq_true rfl, Nat.le_of_ble_eq_true rfl⟩ t0 kd_2 rfl rfl hl.1 rfl (Nat.le_of_ble_eq_true rfl) dX6_knownName_29 ⟨Nat.zero_le _, Nat.zero_le _⟩ (fun x8 H locs ix8 hH hS hF1 => ?_)
        refine lv_pop hx hb dX6_knownName_32 rfl ?_
        exact J33 H locs ls x4 (iv_w ir7 (by decide)) hH hS (lv_sub hl [0] rfl)
    · skip
      refine lv_aload_n hx hb dX6_knownName_8 rfl (lv_at hl 0 rfl) ?_
      refine lv_iconst (v := 2) hx hb dX6_knownName_9 (by decide) ?_
      refine th_callVi (n := 1) (As := [.int 2]) S hK hH hS (th_A.sub (by decide)) (m_X6_blame l D cT T q hq a0 t0 (2) (iv_top _)) gm_722 gm_719 gm_721 gm_6 gm_115 (by decide +kernel) ⟨rfl, rfl, Nat.le_of_ble_eq_true rfl, Nat.le_of_ble_eq_true rfl⟩ t0 kd_2 rfl rfl hl.1 rfl (Nat.le_of_ble_eq_true rfl) dX6_knownName_10 ⟨Nat.zero_le _, Nat.zero_le _⟩ (fun x9 H locs ix9 hH hS hF1 => ?_)
      refine lv_pop hx hb dX6_knownName_13 rfl ?_
      refine lv_iconst (v := (-1)) hx hb dX6_knownName_14 (by decide) ?_
      exact th_iret S hK hH hS hr hlocks (th_R.i (iv_w (iv_c (by decide) : IV (-1) (-1) (-1)) (by decide))) dX6_knownName_15
  exact J0 s.heap [] ls hH va_S.rf hl

set_option maxRecDepth 100000 in
theorem m_X6_knownName_v1 (l : Launch) (D : va_G) (cT : Nat → ClassId) (T : Nat → Option Nat) (q : Nat → Int) (hq : qok q) (a0 : Nat) (t0 : T a0 = some 2) (a1 : Nat) (t1 : T a1 = some 48) (y2 : Int32) (j2 : IV y2 (-2147483648) 2147483647) : th_Met l D cT T (kd q) yX6_knownName cX6_knownName 4 (some .int) (rmk 2 43) [.ref a0, .ref a1, .int y2] (th_R T (some (.inl (-1, 3)))) [2] := by
  refine th_start (by decide) (Nat.le_of_ble_eq_true rfl) ?_
  intro p e s m below meth c ls S hK hH hr hlocks hnm hl
  have hx := S.1
  have hb := S.2.1
  have hl : lv_has ls 4 [(0, .ref a0), (1, .ref a1), (2, .int y2)] := hl
  have J33 : ∀ (H : Heap) (locs : List Loc) (ls : Array Slot) (v33_3 : Int32), IV v33_3 (-1) 3 → th_H D cT T (kd q) H → va_S (th_A T [2]) s.heap H locs → lv_has ls 4 [(3, .int v33_3)] → W p l e (rmk 2 43) s m [.ref a0, .ref a1, .int y2].toArray below meth c H locs 0 0 (MQ below (th_Q D cT T (kd q) (th_R T (some (.inl (-1, 3)))) [2]) [.ref a0, .ref a1, .int y2].toArray s 0 0 (th_A T [2])) (F0 m 33 ls []) := by
    intro H locs ls v33_3 iv33_3 hH hS hl
    refine lv_iload_n hx hb dX6_knownName_33 rfl (lv_at hl 0 rfl) ?_
    exact th_iret S hK hH hS hr hlocks (th_R.i iv33_3) dX6_knownName_34
  have J0 : ∀ (H : Heap) (locs : List Loc) (ls : Array Slot), th_H D cT T (kd q) H → va_S (th_A T [2]) s.heap H locs → lv_has ls 4 [(0, .ref a0), (1, .ref a1), (2, .int y2)] → W p l e (rmk 2 43) s m [.ref a0, .ref a1, .int y2].toArray below meth c H locs 0 0 (MQ below (th_Q D cT T (kd q) (th_R T (some (.inl (-1, 3)))) [2]) [.ref a0, .ref a1, .int y2].toArray s 0 0 (th_A T [2])) (F0 m 0 ls []) := by
    intro H locs ls hH hS hl
    refine lv_aload_n hx hb dX6_knownName_0 rfl (lv_at hl 0 rfl) ?_
    refine th_callVi (n := 0) (As := []) S hK hH hS (th_A.sub (by decide)) (m_X6_kind l D cT T q hq a0 t0) gm_708 gm_705 gm_707 gm_5 gm_115 (by decide +kernel) ⟨rfl, rfl, Nat.le_of_ble_eq_true rfl, Nat.le_of_ble_eq_true rfl⟩ t0 kd_2 rfl rfl hl.1 rfl (Nat.le_of_ble_eq_true rfl) dX6_knownName_1 ⟨Nat.zero_le _, Nat.zero_le _⟩ (fun x1 H locs ix1 hH hS hF1 => ?_)
    refine lv_iconst (v := 2) hx hb dX6_knownName_4 (by decide) ?_
    refine lv_icmp_eq (tgt := 16) hx hb dX6_knownName_5 (by decide) (fun c2 => ?_) (fun c2 => ?_)
    · skip
      have ir3 : IV x1 2 2 := iv_eL c2 (iv_c (by decide) : IV 2 2 2)
      refine lv_aload_n hx hb dX6_knownName_16 rfl (lv_at hl 0 rfl) ?_
      refine lv_aload_n hx hb dX6_knownName_17 rfl (lv_at hl 1 rfl) ?_
      refine lv_iload_n hx hb dX6_knownName_18 rfl (lv_at hl 2 rfl) ?_
      refine th_callVi (n := 2) (As := [.ref a1, .int y2]) S hK hH hS (th_A.sub (by decide)) (m_X6_indexOf_v1 l D cT T q hq a0 t0 a1 t1 (y2) j2) gm_734 gm_731 gm_733 gm_9 gm_115 (by decide +kernel) ⟨rfl, rfl, Nat.le_of_ble_eq_true rfl, Nat.le_of_ble_eq_true rfl⟩ t0 kd_2 rfl rfl hl.1 rfl (Nat.le_of_ble_eq_true rfl) dX6_knownName_19 ⟨Nat.zero_le _, Nat.zero_le _⟩ (fun x4 H locs ix4 hH hS hF1 => ?_)
      refine lv_istore_n (lv' := [(3, .int x4), (0, .ref a0), (1, .ref a1), (2, .int y2)]) hx hb dX6_knownName_22 rfl hl (by decide) rfl (fun ls hl => ?_)
      refine lv_iload_n hx hb dX6_knownName_23 rfl (lv_at hl 0 rfl) ?_
      refine lv_if_ge (tgt := 33) hx hb dX6_knownName_24 (by decide) (fun c5 => ?_) (fun c5 => ?_)
      · skip
        have ir6 : IV x4 0 3 := iv_vR (iv_c (by decide) : IV 0 0 0) ix4 (iv_le c5) (by decide)
        exact J33 H locs ls x4 (iv_w ir6 (by decide)) hH hS (lv_sub hl [0] rfl)
      · skip
        have ir7 : IV x4 (-1) (-1) := iv_uL ix4 (iv_c (by decide) : IV 0 0 0) (iv_nle c5) (by decide)
        refine lv_aload_n hx hb dX6_knownName_27 rfl (lv_at hl 1 rfl) ?_
        refine lv_iconst (v := 5) hx hb dX6_knownName_28 (by decide) ?_
        refine th_callVi (n := 1) (As := [.int 5]) S hK hH hS (th_A.sub (by decide)) (m_X6_blame l D cT T q hq a0 t0 (5) (iv_top _)) gm_722 gm_719 gm_721 gm_6 gm_115 (by decide +kernel) ⟨rfl, rfl, Nat.le_of_ble_eq_true rfl, Nat.le_of_ble_eq_true rfl⟩ t0 kd_2 rfl rfl hl.1 rfl (Nat.le_of_ble_eq_true rfl) dX6_knownName_29 ⟨Nat.zero_le _, Nat.zero_le _⟩ (fun x8 H locs ix8 hH hS hF1 => ?_)
        refine lv_pop hx hb dX6_knownName_32 rfl ?_
        exact J33 H locs ls x4 (iv_w ir7 (by decide)) hH hS (lv_sub hl [0] rfl)
    · skip
      refine lv_aload_n hx hb dX6_knownName_8 rfl (lv_at hl 0 rfl) ?_
      refine lv_iconst (v := 2) hx hb dX6_knownName_9 (by decide) ?_
      refine th_callVi (n := 1) (As := [.int 2]) S hK hH hS (th_A.sub (by decide)) (m_X6_blame l D cT T q hq a0 t0 (2) (iv_top _)) gm_722 gm_719 gm_721 gm_6 gm_115 (by decide +kernel) ⟨rfl, rfl, Nat.le_of_ble_eq_true rfl, Nat.le_of_ble_eq_true rfl⟩ t0 kd_2 rfl rfl hl.1 rfl (Nat.le_of_ble_eq_true rfl) dX6_knownName_10 ⟨Nat.zero_le _, Nat.zero_le _⟩ (fun x9 H locs ix9 hH hS hF1 => ?_)
      refine lv_pop hx hb dX6_knownName_13 rfl ?_
      refine lv_iconst (v := (-1)) hx hb dX6_knownName_14 (by decide) ?_
      exact th_iret S hK hH hS hr hlocks (th_R.i (iv_w (iv_c (by decide) : IV (-1) (-1) (-1)) (by decide))) dX6_knownName_15
  exact J0 s.heap [] ls hH va_S.rf hl

set_option maxRecDepth 100000 in
theorem m_X6_mapsOfPlace (l : Launch) (D : va_G) (cT : Nat → ClassId) (T : Nat → Option Nat) (q : Nat → Int) (hq : qok q) (a0 : Nat) (t0 : T a0 = some 2) (y1 : Int32) (j1 : IV y1 0 7) : th_Met l D cT T (kd q) yX6_mapsOfPlace cX6_mapsOfPlace 4 (some .boolean) (rmk 3 66) [.ref a0, .int y1] (th_R T (some (.inl (0, 1)))) [2, 52, 53] := by
  refine th_start (by decide) (Nat.le_of_ble_eq_true rfl) ?_
  intro p e s m below meth c ls S hK hH hr hlocks hnm hl
  have hx := S.1
  have hb := S.2.1
  have hl : lv_has ls 4 [(0, .ref a0), (1, .int y1)] := hl
  have J112 : ∀ (H : Heap) (locs : List Loc) (ls : Array Slot), th_H D cT T (kd q) H → va_S (th_A T [2, 52, 53]) s.heap H locs → lv_has ls 4 [] → W p l e (rmk 3 66) s m [.ref a0, .int y1].toArray below meth c H locs 0 0 (MQ below (th_Q D cT T (kd q) (th_R T (some (.inl (0, 1)))) [2, 52, 53]) [.ref a0, .int y1].toArray s 0 0 (th_A T [2, 52, 53])) (F0 m 112 ls []) := by
    intro H locs ls hH hS hl
    refine lv_iconst (v := 1) hx hb dX6_mapsOfPlace_112 (by decide) ?_
    exact th_zret S hK hH hS hr hlocks (iv_w (iv_c (by decide) : IV 1 1 1) (by decide)) (th_R.i (iv_w (iv_c (by decide) : IV 1 1 1) (by decide))) dX6_mapsOfPlace_113
  have J2 : ∀ (n : Nat) (H : Heap) (locs : List Loc) (ls : Array Slot) (v2_2 : Int32), IV v2_2 0 5 → th_H D cT T (kd q) H → va_S (th_A T [2, 52, 53]) s.heap H locs → lv_has ls 4 [(0, .ref a0), (1, .int y1), (2, .int v2_2)] → (5 + 1 - v2_2.toInt).toNat < n → W p l e (rmk 3 66) s m [.ref a0, .int y1].toArray below meth c H locs 0 0 (MQ below (th_Q D cT T (kd q) (th_R T (some (.inl (0, 1)))) [2, 52, 53]) [.ref a0, .int y1].toArray s 0 0 (th_A T [2, 52, 53])) (F0 m 2 ls []) := by
    intro n
    induction n with
    | zero => intro H locs ls v2_2 iv2_2 hH hS hl hn; exact absurd hn (Nat.not_lt_zero _)
    | succ n ih2 =>
      intro H locs ls v2_2 iv2_2 hH hS hl hn2
      have J19 : ∀ (H : Heap) (locs : List Loc) (ls : Array Slot), IV v2_2 0 4 → th_H D cT T (kd q) H → va_S (th_A T [2, 52, 53]) s.heap H locs → lv_has ls 4 [(0, .ref a0), (1, .int y1), (2, .int v2_2)] → W p l e (rmk 3 66) s m [.ref a0, .int y1].toArray below meth c H locs 0 0 (MQ below (th_Q D cT T (kd q) (th_R T (some (.inl (0, 1)))) [2, 52, 53]) [.ref a0, .int y1].toArray s 0 0 (th_A T [2, 52, 53])) (F0 m 19 ls []) := by
        intro H locs ls f19_v2_2 hH hS hl
        refine lv_aload_n hx hb dX6_mapsOfPlace_19 rfl (lv_at hl 0 rfl) ?_
        refine lv_aload_n hx hb dX6_mapsOfPlace_20 rfl (lv_at hl 0 rfl) ?_
        refine th_get S hK hH inG6 t0 kd_2 rfl 1 (by decide) gm_340 rfl rfl dX6_mapsOfPlace_21 (fun v1 hv1 fv1 => ?_)
        obtain ⟨rf2, rfl, trf2⟩ := th_V.ref hv1
        refine th_get S hK hH inG4 trf2 kd_46 rfl 1 (by decide) gm_238 rfl rfl dX6_mapsOfPlace_24 (fun v3 hv3 fv3 => ?_)
        obtain ⟨rf4, rfl, trf4⟩ := th_V.ref hv3
        refine lv_aload_n hx hb dX6_mapsOfPlace_27 rfl (lv_at hl 0 rfl) ?_
        refine th_getK S hK fv1 inG6 rfl (by decide) gm_340 rfl dX6_mapsOfPlace_28 ?_
        refine th_get S hK hH inG4 trf2 kd_46 rfl 12 (by decide) gm_280 rfl rfl dX6_mapsOfPlace_31 (fun v6 hv6 fv6 => ?_)
        obtain ⟨x7, rfl, ix7⟩ := th_V.int hv6
        have ix7 : IV x7 0 4 := iv_w ix7 (qok_4 hq)
        refine th_callVi (n := 2) (As := [.ref rf4, .int x7]) S hK hH hS (th_A.sub (by decide)) (m_X6_knownName_v1 l D cT T q hq a0 t0 rf4 trf4 (x7) (iv_top _)) gm_789 gm_786 gm_788 gm_19 gm_115 (by decide +kernel) ⟨rfl, rfl, Nat.le_of_ble_eq_true rfl, Nat.le_of_ble_eq_true rfl⟩ t0 kd_2 rfl rfl hl.1 rfl (Nat.le_of_ble_eq_true rfl) dX6_mapsOfPlace_34 ⟨Nat.zero_le _, Nat.zero_le _⟩ (fun x8 H locs ix8 hH hS hF1 => ?_)
        refine lv_istore_n (lv' := [(3, .int x8), (0, .ref a0), (1, .int y1), (2, .int v2_2)]) hx hb dX6_mapsOfPlace_37 rfl hl (by decide) rfl (fun ls hl => ?_)
        refine lv_iload_n hx hb dX6_mapsOfPlace_38 rfl (lv_at hl 0 rfl) ?_
        refine lv_if_ge (tgt := 44) hx hb dX6_mapsOfPlace_39 (by decide) (fun c9 => ?_) (fun c9 => ?_)
        · skip
          have ir10 : IV x8 0 3 := iv_vR (iv_c (by decide) : IV 0 0 0) ix8 (iv_le c9) (by decide)
          refine lv_aload_n hx hb dX6_mapsOfPlace_44 rfl (lv_at hl 1 rfl) ?_
          refine th_get S hK hH inG6 t0 kd_2 rfl 1 (by decide) gm_340 rfl rfl dX6_mapsOfPlace_45 (fun v11 hv11 fv11 => ?_)
          obtain ⟨rf12, rfl, trf12⟩ := th_V.ref hv11
          refine th_get S hK hH inG4 trf12 kd_46 rfl 5 (by decide) gm_250 rfl rfl dX6_mapsOfPlace_48 (fun v13 hv13 fv13 => ?_)
          obtain ⟨rf14, rfl, trf14⟩ := th_V.ref hv13
          refine lv_iload_n hx hb dX6_mapsOfPlace_51 rfl (lv_at hl 2 rfl) ?_
          refine th_iald S hK hH trf14 kd_52 (th_in (hi := 7) j1 (by decide)) dX6_mapsOfPlace_52 (fun v15 hv15 => ?_)
          obtain ⟨x16, rfl, ix16⟩ := th_V.int hv15
          refine lv_iload_n hx hb dX6_mapsOfPlace_53 rfl (lv_at hl 0 rfl) ?_
          refine lv_ishr hx hb dX6_mapsOfPlace_54 ?_
          refine lv_topi (fun x17 ex17 => ?_)
          have ix17 := iv_top x17
          refine lv_iconst (v := 1) hx hb dX6_mapsOfPlace_55 (by decide) ?_
          refine lv_iand hx hb dX6_mapsOfPlace_56 ?_
          refine lv_topi (fun x18 ex18 => ?_)
          have ix18 : IV x18 0 1 := by rw [ex18]; exact iv_and (h2 := 1) (iv_w (iv_c (by decide) : IV 1 1 1) (by decide)) (by decide)
          refine lv_if_eq (tgt := 66) hx hb dX6_mapsOfPlace_57 (by decide) (fun c19 => ?_) (fun c19 => ?_)
          · skip
            have ir20 : IV x18 0 0 := iv_eL c19 (iv_c (by decide) : IV 0 0 0)
            refine lv_aload_n hx hb dX6_mapsOfPlace_66 rfl (lv_at hl 1 rfl) ?_
            refine th_getK S hK fv11 inG6 rfl (by decide) gm_340 rfl dX6_mapsOfPlace_67 ?_
            refine th_getK S hK fv13 inG4 rfl (by decide) gm_250 rfl dX6_mapsOfPlace_70 ?_
            refine lv_iload_n hx hb dX6_mapsOfPlace_73 rfl (lv_at hl 2 rfl) ?_
            refine lv_dup2_11 hx hb dX6_mapsOfPlace_74 rfl rfl ?_
            refine th_iald S hK hH trf14 kd_52 (th_in (hi := 7) j1 (by decide)) dX6_mapsOfPlace_75 (fun v23 hv23 => ?_)
            obtain ⟨x24, rfl, ix24⟩ := th_V.int hv23
            refine lv_iconst (v := 1) hx hb dX6_mapsOfPlace_76 (by decide) ?_
            refine lv_iload_n hx hb dX6_mapsOfPlace_77 rfl (lv_at hl 0 rfl) ?_
            refine lv_ishl hx hb dX6_mapsOfPlace_78 ?_
            refine lv_topi (fun x25 ex25 => ?_)
            have ix25 := iv_top x25
            refine lv_ior hx hb dX6_mapsOfPlace_79 ?_
            refine lv_topi (fun x26 ex26 => ?_)
            have ix26 := iv_top x26
            refine th_iast S hK hH hS ⟨52, by decide, trf14⟩ trf14 kd_52 (th_in (hi := 7) j1 (by decide)) (th_iv ix26) dX6_mapsOfPlace_80 (fun H locs hH hS hq1 => ?_)
            have f27 := fv11.kept (hq1 _ (th_ne t0 trf14 (by decide)))
            have f28 := fv13.kept (hq1 _ (th_ne trf12 trf14 (by decide)))
            refine lv_aload_n hx hb dX6_mapsOfPlace_81 rfl (lv_at hl 1 rfl) ?_
            refine th_getK S hK f27 inG6 rfl (by decide) gm_340 rfl dX6_mapsOfPlace_82 ?_
            refine th_get S hK hH inG4 trf12 kd_46 rfl 6 (by decide) gm_254 rfl rfl dX6_mapsOfPlace_85 (fun v30 hv30 fv30 => ?_)
            obtain ⟨rf31, rfl, trf31⟩ := th_V.ref hv30
            refine lv_iload_n hx hb dX6_mapsOfPlace_88 rfl (lv_at hl 0 rfl) ?_
            refine lv_dup2_11 hx hb dX6_mapsOfPlace_89 rfl rfl ?_
            refine th_iald S hK hH trf31 kd_53 (th_in (hi := 3) ir10 (by decide)) dX6_mapsOfPlace_90 (fun v32 hv32 => ?_)
            obtain ⟨x33, rfl, ix33⟩ := th_V.int hv32
            refine lv_iconst (v := 1) hx hb dX6_mapsOfPlace_91 (by decide) ?_
            refine lv_iload_n hx hb dX6_mapsOfPlace_92 rfl (lv_at hl 2 rfl) ?_
            refine lv_ishl hx hb dX6_mapsOfPlace_93 ?_
            refine lv_topi (fun x34 ex34 => ?_)
            have ix34 := iv_top x34
            refine lv_ior hx hb dX6_mapsOfPlace_94 ?_
            refine lv_topi (fun x35 ex35 => ?_)
            have ix35 := iv_top x35
            refine th_iast S hK hH hS ⟨53, by decide, trf31⟩ trf31 kd_53 (th_in (hi := 3) ir10 (by decide)) (th_iv ix35) dX6_mapsOfPlace_95 (fun H locs hH hS hq1 => ?_)
            have f36 := f27.kept (hq1 _ (th_ne t0 trf31 (by decide)))
            have f37 := f28.kept (hq1 _ (th_ne trf12 trf31 (by decide)))
            refine lv_aload_n hx hb dX6_mapsOfPlace_96 rfl (lv_at hl 1 rfl) ?_
            refine lv_dup hx hb dX6_mapsOfPlace_97 rfl ?_
            refine th_get S hK hH inG6 t0 kd_2 rfl 2 (by decide) gm_342 rfl rfl dX6_mapsOfPlace_98 (fun v38 hv38 fv38 => ?_)
            obtain ⟨x39, rfl, ix39⟩ := th_V.int hv38
            refine lv_iconst (v := 1) hx hb dX6_mapsOfPlace_101 (by decide) ?_
            refine lv_iadd hx hb dX6_mapsOfPlace_102 ?_
            refine lv_topi (fun x40 ex40 => ?_)
            have ix40 := iv_top x40
            refine th_put S hK hH hS ⟨2, by decide, t0⟩ inG6 tyX6 tyX6_ok nmX6 t0 kd_2 rfl 2 (by decide) gm_342 rfl rfl rfl rfl (th_iv ix40) (fun _ _ => trivial) (ty := .int) (by decide +kernel) rfl rfl dX6_mapsOfPlace_103 (fun H locs hH hS hq1 hp1 => ?_)
            have f41 := hp1.2 1 _ (by decide) (by decide) f36
            have f42 := f37.kept (hq1 _ (th_ne trf12 t0 (by decide)))
            have f43 := hp1.1
            refine th_iinc S dX6_mapsOfPlace_106 hl (k := 3) rfl (by decide) f19_v2_2 (by decide) (fun x44 ls ex44 ix44 hl => ?_)
            have hl : lv_has ls 4 [(2, .int x44), (3, .int x8), (0, .ref a0), (1, .int y1)] := hl
            have ix44 : IV x44 1 5 := ix44
            refine lv_goto (tgt := 2) hx hb dX6_mapsOfPlace_109 (by decide) ?_
            exact ih2 H locs ls x44 (iv_w ix44 (by decide)) hH hS (lv_sub hl [2, 3, 0] rfl) (th_up iv2_2 ex44 (by decide) hn2)
          · skip
            have ir45 : IV x18 1 1 := iv_cutL ix18 (iv_c (by decide) : IV 0 0 0) c19 (by decide)
            refine lv_aload_n hx hb dX6_mapsOfPlace_60 rfl (lv_at hl 1 rfl) ?_
            refine lv_iconst (v := 3) hx hb dX6_mapsOfPlace_61 (by decide) ?_
            refine th_callVi (n := 1) (As := [.int 3]) S hK hH hS (th_A.sub (by decide)) (m_X6_blame l D cT T q hq a0 t0 (3) (iv_top _)) gm_722 gm_719 gm_721 gm_6 gm_115 (by decide +kernel) ⟨rfl, rfl, Nat.le_of_ble_eq_true rfl, Nat.le_of_ble_eq_true rfl⟩ t0 kd_2 rfl rfl hl.1 rfl (Nat.le_of_ble_eq_true rfl) dX6_mapsOfPlace_62 ⟨Nat.zero_le _, Nat.zero_le _⟩ (fun x46 H locs ix46 hH hS hF1 => ?_)
            have f47 := fv13.kept (hF1 _ fv13.lt (th_off trf12 (by decide)))
            exact th_zret S hK hH hS hr hlocks (iv_w ix46 (by decide)) (th_R.i (iv_w ix46 (by decide))) dX6_mapsOfPlace_65
        · skip
          have ir48 : IV x8 (-1) (-1) := iv_uL ix8 (iv_c (by decide) : IV 0 0 0) (iv_nle c9) (by decide)
          refine lv_iconst (v := 0) hx hb dX6_mapsOfPlace_42 (by decide) ?_
          exact th_zret S hK hH hS hr hlocks (iv_w (iv_c (by decide) : IV 0 0 0) (by decide)) (th_R.i (iv_w (iv_c (by decide) : IV 0 0 0) (by decide))) dX6_mapsOfPlace_43
      refine lv_iload_n hx hb dX6_mapsOfPlace_2 rfl (lv_at hl 2 rfl) ?_
      refine lv_if_eq (tgt := 19) hx hb dX6_mapsOfPlace_3 (by decide) (fun c49 => ?_) (fun c49 => ?_)
      · skip
        have ir50 : IV v2_2 0 0 := iv_eL c49 (iv_c (by decide) : IV 0 0 0)
        exact J19 H locs ls (iv_w ir50 (by decide)) hH hS (lv_sub hl [0, 1, 2] rfl)
      · skip
        have ir51 : IV v2_2 1 5 := iv_cutL iv2_2 (iv_c (by decide) : IV 0 0 0) c49 (by decide)
        refine lv_iload_n hx hb dX6_mapsOfPlace_6 rfl (lv_at hl 2 rfl) ?_
        refine lv_iconst (v := 4) hx hb dX6_mapsOfPlace_7 (by decide) ?_
        refine lv_icmp_gt (tgt := 112) hx hb dX6_mapsOfPlace_8 (by decide) (fun c52 => ?_) (fun c52 => ?_)
        · skip
          have ir53 : IV v2_2 5 5 := iv_uR (iv_c (by decide) : IV 4 4 4) ir51 (iv_lt c52) (by decide)
          exact J112 H locs ls  hH hS (lv_sub hl [] rfl)
        · skip
          have ir54 : IV v2_2 1 4 := iv_vL ir51 (iv_c (by decide) : IV 4 4 4) (iv_nlt c52) (by decide)
          refine lv_aload_n hx hb dX6_mapsOfPlace_11 rfl (lv_at hl 0 rfl) ?_
          refine th_callVi (n := 0) (As := []) S hK hH hS (th_A.sub (by decide)) (m_X6_kind l D cT T q hq a0 t0) gm_708 gm_705 gm_707 gm_5 gm_115 (by decide +kernel) ⟨rfl, rfl, Nat.le_of_ble_eq_true rfl, Nat.le_of_ble_eq_true rfl⟩ t0 kd_2 rfl rfl hl.1 rfl (Nat.le_of_ble_eq_true rfl) dX6_mapsOfPlace_12 ⟨Nat.zero_le _, Nat.zero_le _⟩ (fun x55 H locs ix55 hH hS hF1 => ?_)
          refine lv_iconst (v := 2) hx hb dX6_mapsOfPlace_15 (by decide) ?_
          refine lv_icmp_ne (tgt := 112) hx hb dX6_mapsOfPlace_16 (by decide) (fun c56 => ?_) (fun c56 => ?_)
          · skip
            exact J112 H locs ls  hH hS (lv_sub hl [] rfl)
          · skip
            have ir57 : IV x55 2 2 := iv_eL c56 (iv_c (by decide) : IV 2 2 2)
            exact J19 H locs ls (iv_w ir54 (by decide)) hH hS (lv_sub hl [0, 1, 2] rfl)
  have J0 : ∀ (H : Heap) (locs : List Loc) (ls : Array Slot), th_H D cT T (kd q) H → va_S (th_A T [2, 52, 53]) s.heap H locs → lv_has ls 4 [(0, .ref a0), (1, .int y1)] → W p l e (rmk 3 66) s m [.ref a0, .int y1].toArray below meth c H locs 0 0 (MQ below (th_Q D cT T (kd q) (th_R T (some (.inl (0, 1)))) [2, 52, 53]) [.ref a0, .int y1].toArray s 0 0 (th_A T [2, 52, 53])) (F0 m 0 ls []) := by
    intro H locs ls hH hS hl
    refine lv_iconst (v := 0) hx hb dX6_mapsOfPlace_0 (by decide) ?_
    refine lv_istore_n (lv' := [(2, .int 0), (0, .ref a0), (1, .int y1)]) hx hb dX6_mapsOfPlace_1 rfl hl (by decide) rfl (fun ls hl => ?_)
    exact J2 ((5 + 1 - Int32.toInt 0).toNat + 1) H locs ls 0 (iv_w (iv_c (by decide) : IV 0 0 0) (by decide)) hH hS (lv_sub hl [1, 2, 0] rfl) (Nat.lt_succ_self _)
  exact J0 s.heap [] ls hH va_S.rf hl
