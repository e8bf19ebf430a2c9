theorem dX6_formula_0 : decode cX6_formula 0 = .ok (.aload_n 0, 1) := by decide +kernel
theorem dX6_formula_1 : decode cX6_formula 1 = .ok (.iconst 0, 1) := by decide +kernel
theorem dX6_formula_2 : decode cX6_formula 2 = .ok (.putfield 22, 3) := by decide +kernel
theorem dX6_formula_5 : decode cX6_formula 5 = .ok (.aload_n 0, 1) := by decide +kernel
theorem dX6_formula_6 : decode cX6_formula 6 = .ok (.getfield 12, 3) := by decide +kernel
theorem dX6_formula_9 : decode cX6_formula 9 = .ok (.getfield 157, 3) := by decide +kernel
theorem dX6_formula_12 : decode cX6_formula 12 = .ok (.iload_n 1, 1) := by decide +kernel
theorem dX6_formula_13 : decode cX6_formula 13 = .ok (.invokevirtual 161, 3) := by decide +kernel
theorem dX6_formula_16 : decode cX6_formula 16 = .ok (.aload_n 0, 1) := by decide +kernel
theorem dX6_formula_17 : decode cX6_formula 17 = .ok (.iconst 0, 1) := by decide +kernel
theorem dX6_formula_18 : decode cX6_formula 18 = .ok (.iconst 0, 1) := by decide +kernel
theorem dX6_formula_19 : decode cX6_formula 19 = .ok (.invokevirtual 167, 3) := by decide +kernel
theorem dX6_formula_22 : decode cX6_formula 22 = .ok (.ifCond .ne 5, 3) := by decide +kernel
theorem dX6_formula_25 : decode cX6_formula 25 = .ok (.iconst 0, 1) := by decide +kernel
theorem dX6_formula_26 : decode cX6_formula 26 = .ok (.ireturn, 1) := by decide +kernel
theorem dX6_formula_27 : decode cX6_formula 27 = .ok (.aload_n 0, 1) := by decide +kernel
theorem dX6_formula_28 : decode cX6_formula 28 = .ok (.getfield 12, 3) := by decide +kernel
theorem dX6_formula_31 : decode cX6_formula 31 = .ok (.getfield 157, 3) := by decide +kernel
theorem dX6_formula_34 : decode cX6_formula 34 = .ok (.iload_n 1, 1) := by decide +kernel
theorem dX6_formula_35 : decode cX6_formula 35 = .ok (.invokevirtual 171, 3) := by decide +kernel
theorem dX6_formula_38 : decode cX6_formula 38 = .ok (.iconst 1, 1) := by decide +kernel
theorem dX6_formula_39 : decode cX6_formula 39 = .ok (.ireturn, 1) := by decide +kernel
theorem dX6_mapLine_0 : decode cX6_mapLine 0 = .ok (.aload_n 0, 1) := by decide +kernel
theorem dX6_mapLine_1 : decode cX6_mapLine 1 = .ok (.getfield 12, 3) := by decide +kernel
theorem dX6_mapLine_4 : decode cX6_mapLine 4 = .ok (.getfield 111, 3) := by decide +kernel
theorem dX6_mapLine_7 : decode cX6_mapLine 7 = .ok (.istore_n 1, 1) := by decide +kernel
theorem dX6_mapLine_8 : decode cX6_mapLine 8 = .ok (.aload_n 0, 1) := by decide +kernel
theorem dX6_mapLine_9 : decode cX6_mapLine 9 = .ok (.aload_n 0, 1) := by decide +kernel
theorem dX6_mapLine_10 : decode cX6_mapLine 10 = .ok (.getfield 12, 3) := by decide +kernel
theorem dX6_mapLine_13 : decode cX6_mapLine 13 = .ok (.getfield 114, 3) := by decide +kernel
theorem dX6_mapLine_16 : decode cX6_mapLine 16 = .ok (.iload_n 1, 1) := by decide +kernel
theorem dX6_mapLine_17 : decode cX6_mapLine 17 = .ok (.invokevirtual 103, 3) := by decide +kernel
theorem dX6_mapLine_20 : decode cX6_mapLine 20 = .ok (.ifCond .eq 13, 3) := by decide +kernel
theorem dX6_mapLine_23 : decode cX6_mapLine 23 = .ok (.aload_n 0, 1) := by decide +kernel
theorem dX6_mapLine_24 : decode cX6_mapLine 24 = .ok (.sipush 136, 3) := by decide +kernel
theorem dX6_mapLine_27 : decode cX6_mapLine 27 = .ok (.invokevirtual 93, 3) := by decide +kernel
theorem dX6_mapLine_30 : decode cX6_mapLine 30 = .ok (.ifCond .ne 5, 3) := by decide +kernel
theorem dX6_mapLine_33 : decode cX6_mapLine 33 = .ok (.iconst 0, 1) := by decide +kernel
theorem dX6_mapLine_34 : decode cX6_mapLine 34 = .ok (.ireturn, 1) := by decide +kernel
theorem dX6_mapLine_35 : decode cX6_mapLine 35 = .ok (.aload_n 0, 1) := by decide +kernel
theorem dX6_mapLine_36 : decode cX6_mapLine 36 = .ok (.iconst 1, 1) := by decide +kernel
theorem dX6_mapLine_37 : decode cX6_mapLine 37 = .ok (.bipush 9, 2) := by decide +kernel
theorem dX6_mapLine_39 : decode cX6_mapLine 39 = .ok (.invokevirtual 107, 3) := by decide +kernel
theorem dX6_mapLine_42 : decode cX6_mapLine 42 = .ok (.istore_n 2, 1) := by decide +kernel
theorem dX6_mapLine_43 : decode cX6_mapLine 43 = .ok (.iload_n 2, 1) := by decide +kernel
theorem dX6_mapLine_44 : decode cX6_mapLine 44 = .ok (.ifCond .lt 21, 3) := by decide +kernel
theorem dX6_mapLine_47 : decode cX6_mapLine 47 = .ok (.aload_n 0, 1) := by decide +kernel
theorem dX6_mapLine_48 : decode cX6_mapLine 48 = .ok (.sipush 143, 3) := by decide +kernel
theorem dX6_mapLine_51 : decode cX6_mapLine 51 = .ok (.invokevirtual 93, 3) := by decide +kernel
theorem dX6_mapLine_54 : decode cX6_mapLine 54 = .ok (.ifCond .eq 11, 3) := by decide +kernel
theorem dX6_mapLine_57 : decode cX6_mapLine 57 = .ok (.aload_n 0, 1) := by decide +kernel
theorem dX6_mapLine_58 : decode cX6_mapLine 58 = .ok (.iload_n 1, 1) := by decide +kernel
theorem dX6_mapLine_59 : decode cX6_mapLine 59 = .ok (.invokevirtual 74, 3) := by decide +kernel
theorem dX6_mapLine_62 : decode cX6_mapLine 62 = .ok (.ifCond .ne 5, 3) := by decide +kernel
theorem dX6_mapLine_65 : decode cX6_mapLine 65 = .ok (.iconst 0, 1) := by decide +kernel
theorem dX6_mapLine_66 : decode cX6_mapLine 66 = .ok (.ireturn, 1) := by decide +kernel
theorem dX6_mapLine_67 : decode cX6_mapLine 67 = .ok (.iconst 0, 1) := by decide +kernel
theorem dX6_mapLine_68 : decode cX6_mapLine 68 = .ok (.istore_n 3, 1) := by decide +kernel
theorem dX6_mapLine_69 : decode cX6_mapLine 69 = .ok (.aload_n 0, 1) := by decide +kernel
theorem dX6_mapLine_70 : decode cX6_mapLine 70 = .ok (.invokevirtual 43, 3) := by decide +kernel
theorem dX6_mapLine_73 : decode cX6_mapLine 73 = .ok (.sipush 144, 3) := by decide +kernel
theorem dX6_mapLine_76 : decode cX6_mapLine 76 = .ok (.if_icmp .ne 26, 3) := by decide +kernel
theorem dX6_mapLine_79 : decode cX6_mapLine 79 = .ok (.aload_n 0, 1) := by decide +kernel
theorem dX6_mapLine_80 : decode cX6_mapLine 80 = .ok (.dup, 1) := by decide +kernel
theorem dX6_mapLine_81 : decode cX6_mapLine 81 = .ok (.getfield 18, 3) := by decide +kernel
theorem dX6_mapLine_84 : decode cX6_mapLine 84 = .ok (.iconst 1, 1) := by decide +kernel
theorem dX6_mapLine_85 : decode cX6_mapLine 85 = .ok (.iadd, 1) := by decide +kernel
theorem dX6_mapLine_86 : decode cX6_mapLine 86 = .ok (.putfield 18, 3) := by decide +kernel
theorem dX6_mapLine_89 : decode cX6_mapLine 89 = .ok (.aload_n 0, 1) := by decide +kernel
theorem dX6_mapLine_90 : decode cX6_mapLine 90 = .ok (.iconst 0, 1) := by decide +kernel
theorem dX6_mapLine_91 : decode cX6_mapLine 91 = .ok (.iconst 3, 1) := by decide +kernel
theorem dX6_mapLine_92 : decode cX6_mapLine 92 = .ok (.invokevirtual 107, 3) := by decide +kernel
theorem dX6_mapLine_95 : decode cX6_mapLine 95 = .ok (.istore_n 3, 1) := by decide +kernel
theorem dX6_mapLine_96 : decode cX6_mapLine 96 = .ok (.iload_n 3, 1) := by decide +kernel
theorem dX6_mapLine_97 : decode cX6_mapLine 97 = .ok (.ifCond .ge 5, 3) := by decide +kernel
theorem dX6_mapLine_100 : decode cX6_mapLine 100 = .ok (.iconst 0, 1) := by decide +kernel
theorem dX6_mapLine_101 : decode cX6_mapLine 101 = .ok (.ireturn, 1) := by decide +kernel
theorem dX6_mapLine_102 : decode cX6_mapLine 102 = .ok (.aload_n 0, 1) := by decide +kernel
theorem dX6_mapLine_103 : decode cX6_mapLine 103 = .ok (.invokevirtual 43, 3) := by decide +kernel
theorem dX6_mapLine_106 : decode cX6_mapLine 106 = .ok (.sipush 145, 3) := by decide +kernel
theorem dX6_mapLine_109 : decode cX6_mapLine 109 = .ok (.if_icmp .ne 32, 3) := by decide +kernel
theorem dX6_mapLine_112 : decode cX6_mapLine 112 = .ok (.aload_n 0, 1) := by decide +kernel
theorem dX6_mapLine_113 : decode cX6_mapLine 113 = .ok (.dup, 1) := by decide +kernel
theorem dX6_mapLine_114 : decode cX6_mapLine 114 = .ok (.getfield 18, 3) := by decide +kernel
theorem dX6_mapLine_117 : decode cX6_mapLine 117 = .ok (.iconst 1, 1) := by decide +kernel
theorem dX6_mapLine_118 : decode cX6_mapLine 118 = .ok (.iadd, 1) := by decide +kernel
theorem dX6_mapLine_119 : decode cX6_mapLine 119 = .ok (.putfield 18, 3) := by decide +kernel
theorem dX6_mapLine_122 : decode cX6_mapLine 122 = .ok (.aload_n 0, 1) := by decide +kernel
theorem dX6_mapLine_123 : decode cX6_mapLine 123 = .ok (.getfield 12, 3) := by decide +kernel
theorem dX6_mapLine_126 : decode cX6_mapLine 126 = .ok (.getfield 80, 3) := by decide +kernel
theorem dX6_mapLine_129 : decode cX6_mapLine 129 = .ok (.getfield 84, 3) := by decide +kernel
theorem dX6_mapLine_132 : decode cX6_mapLine 132 = .ok (.bipush 39, 2) := by decide +kernel
theorem dX6_mapLine_134 : decode cX6_mapLine 134 = .ok (.dup2, 1) := by decide +kernel
theorem dX6_mapLine_135 : decode cX6_mapLine 135 = .ok (.iaload, 1) := by decide +kernel
theorem dX6_mapLine_136 : decode cX6_mapLine 136 = .ok (.iconst 1, 1) := by decide +kernel
theorem dX6_mapLine_137 : decode cX6_mapLine 137 = .ok (.iload_n 1, 1) := by decide +kernel
theorem dX6_mapLine_138 : decode cX6_mapLine 138 = .ok (.ishl, 1) := by decide +kernel
theorem dX6_mapLine_139 : decode cX6_mapLine 139 = .ok (.ior, 1) := by decide +kernel
theorem dX6_mapLine_140 : decode cX6_mapLine 140 = .ok (.iastore, 1) := by decide +kernel
theorem dX6_mapLine_141 : decode cX6_mapLine 141 = .ok (.aload_n 0, 1) := by decide +kernel
theorem dX6_mapLine_142 : decode cX6_mapLine 142 = .ok (.getfield 12, 3) := by decide +kernel
theorem dX6_mapLine_145 : decode cX6_mapLine 145 = .ok (.getfield 117, 3) := by decide +kernel
theorem dX6_mapLine_148 : decode cX6_mapLine 148 = .ok (.iload_n 1, 1) := by decide +kernel
theorem dX6_mapLine_149 : decode cX6_mapLine 149 = .ok (.iload_n 2, 1) := by decide +kernel
theorem dX6_mapLine_150 : decode cX6_mapLine 150 = .ok (.iastore, 1) := by decide +kernel
theorem dX6_mapLine_151 : decode cX6_mapLine 151 = .ok (.aload_n 0, 1) := by decide +kernel
theorem dX6_mapLine_152 : decode cX6_mapLine 152 = .ok (.getfield 12, 3) := by decide +kernel
theorem dX6_mapLine_155 : decode cX6_mapLine 155 = .ok (.getfield 80, 3) := by decide +kernel
theorem dX6_mapLine_158 : decode cX6_mapLine 158 = .ok (.getfield 84, 3) := by decide +kernel
theorem dX6_mapLine_161 : decode cX6_mapLine 161 = .ok (.bipush 35, 2) := by decide +kernel
theorem dX6_mapLine_163 : decode cX6_mapLine 163 = .ok (.iload_n 1, 1) := by decide +kernel
theorem dX6_mapLine_164 : decode cX6_mapLine 164 = .ok (.iadd, 1) := by decide +kernel
theorem dX6_mapLine_165 : decode cX6_mapLine 165 = .ok (.iload_n 3, 1) := by decide +kernel
theorem dX6_mapLine_166 : decode cX6_mapLine 166 = .ok (.iastore, 1) := by decide +kernel
theorem dX6_mapLine_167 : decode cX6_mapLine 167 = .ok (.aload_n 0, 1) := by decide +kernel
theorem dX6_mapLine_168 : decode cX6_mapLine 168 = .ok (.getfield 12, 3) := by decide +kernel
theorem dX6_mapLine_171 : decode cX6_mapLine 171 = .ok (.dup, 1) := by decide +kernel
theorem dX6_mapLine_172 : decode cX6_mapLine 172 = .ok (.getfield 111, 3) := by decide +kernel
theorem dX6_mapLine_175 : decode cX6_mapLine 175 = .ok (.iconst 1, 1) := by decide +kernel
theorem dX6_mapLine_176 : decode cX6_mapLine 176 = .ok (.iadd, 1) := by decide +kernel
theorem dX6_mapLine_177 : decode cX6_mapLine 177 = .ok (.putfield 111, 3) := by decide +kernel
theorem dX6_mapLine_180 : decode cX6_mapLine 180 = .ok (.iconst 1, 1) := by decide +kernel
theorem dX6_mapLine_181 : decode cX6_mapLine 181 = .ok (.ireturn, 1) := by decide +kernel
theorem dX6_knownName_0 : decode cX6_knownName 0 = .ok (.aload_n 0, 1) := by decide +kernel
theorem dX6_knownName_1 : decode cX6_knownName 1 = .ok (.invokevirtual 43, 3) := by decide +kernel
theorem dX6_knownName_4 : decode cX6_knownName 4 = .ok (.iconst 2, 1) := by decide +kernel
theorem dX6_knownName_5 : decode cX6_knownName 5 = .ok (.if_icmp .eq 11, 3) := by decide +kernel
theorem dX6_knownName_8 : decode cX6_knownName 8 = .ok (.aload_n 0, 1) := by decide +kernel
theorem dX6_knownName_9 : decode cX6_knownName 9 = .ok (.iconst 2, 1) := by decide +kernel
theorem dX6_knownName_10 : decode cX6_knownName 10 = .ok (.invokevirtual 51, 3) := by decide +kernel
theorem dX6_knownName_13 : decode cX6_knownName 13 = .ok (.pop, 1) := by decide +kernel
theorem dX6_knownName_14 : decode cX6_knownName 14 = .ok (.iconst (-1), 1) := by decide +kernel
theorem dX6_knownName_15 : decode cX6_knownName 15 = .ok (.ireturn, 1) := by decide +kernel
theorem dX6_knownName_16 : decode cX6_knownName 16 = .ok (.aload_n 0, 1) := by decide +kernel
theorem dX6_knownName_17 : decode cX6_knownName 17 = .ok (.aload_n 1, 1) := by decide +kernel
theorem dX6_knownName_18 : decode cX6_knownName 18 = .ok (.iload_n 2, 1) := by decide +kernel
theorem dX6_knownName_19 : decode cX6_knownName 19 = .ok (.invokevirtual 191, 3) := by decide +kernel
theorem dX6_knownName_22 : decode cX6_knownName 22 = .ok (.istore_n 3, 1) := by decide +kernel
theorem dX6_knownName_23 : decode cX6_knownName 23 = .ok (.iload_n 3, 1) := by decide +kernel
theorem dX6_knownName_24 : decode cX6_knownName 24 = .ok (.ifCond .ge 9, 3) := by decide +kernel
theorem dX6_knownName_27 : decode cX6_knownName 27 = .ok (.aload_n 0, 1) := by decide +kernel
theorem dX6_knownName_28 : decode cX6_knownName 28 = .ok (.iconst 5, 1) := by decide +kernel
theorem dX6_knownName_29 : decode cX6_knownName 29 = .ok (.invokevirtual 51, 3) := by decide +kernel
theorem dX6_knownName_32 : decode cX6_knownName 32 = .ok (.pop, 1) := by decide +kernel
theorem dX6_knownName_33 : decode cX6_knownName 33 = .ok (.iload_n 3, 1) := by decide +kernel
theorem dX6_knownName_34 : decode cX6_knownName 34 = .ok (.ireturn, 1) := by decide +kernel
theorem dX6_mapsOfPlace_0 : decode cX6_mapsOfPlace 0 = .ok (.iconst 0, 1) := by decide +kernel
theorem dX6_mapsOfPlace_1 : decode cX6_mapsOfPlace 1 = .ok (.istore_n 2, 1) := by decide +kernel
theorem dX6_mapsOfPlace_2 : decode cX6_mapsOfPlace 2 = .ok (.iload_n 2, 1) := by decide +kernel
theorem dX6_mapsOfPlace_3 : decode cX6_mapsOfPlace 3 = .ok (.ifCond .eq 16, 3) := by decide +kernel
theorem dX6_mapsOfPlace_6 : decode cX6_mapsOfPlace 6 = .ok (.iload_n 2, 1) := by decide +kernel
theorem dX6_mapsOfPlace_7 : decode cX6_mapsOfPlace 7 = .ok (.iconst 4, 1) := by decide +kernel
theorem dX6_mapsOfPlace_8 : decode cX6_mapsOfPlace 8 = .ok (.if_icmp .gt 104, 3) := by decide +kernel
theorem dX6_mapsOfPlace_11 : decode cX6_mapsOfPlace 11 = .ok (.aload_n 0, 1) := by decide +kernel
theorem dX6_mapsOfPlace_12 : decode cX6_mapsOfPlace 12 = .ok (.invokevirtual 43, 3) := by decide +kernel
theorem dX6_mapsOfPlace_15 : decode cX6_mapsOfPlace 15 = .ok (.iconst 2, 1) := by decide +kernel
theorem dX6_mapsOfPlace_16 : decode cX6_mapsOfPlace 16 = .ok (.if_icmp .ne 96, 3) := by decide +kernel
theorem dX6_mapsOfPlace_19 : decode cX6_mapsOfPlace 19 = .ok (.aload_n 0, 1) := by decide +kernel
theorem dX6_mapsOfPlace_20 : decode cX6_mapsOfPlace 20 = .ok (.aload_n 0, 1) := by decide +kernel
theorem dX6_mapsOfPlace_21 : decode cX6_mapsOfPlace 21 = .ok (.getfield 12, 3) := by decide +kernel
theorem dX6_mapsOfPlace_24 : decode cX6_mapsOfPlace 24 = .ok (.getfield 114, 3) := by decide +kernel
theorem dX6_mapsOfPlace_27 : decode cX6_mapsOfPlace 27 = .ok (.aload_n 0, 1) := by decide +kernel
theorem dX6_mapsOfPlace_28 : decode cX6_mapsOfPlace 28 = .ok (.getfield 12, 3) := by decide +kernel
theorem dX6_mapsOfPlace_31 : decode cX6_mapsOfPlace 31 = .ok (.getfield 111, 3) := by decide +kernel
theorem dX6_mapsOfPlace_34 : decode cX6_mapsOfPlace 34 = .ok (.invokevirtual 132, 3) := by decide +kernel
theorem dX6_mapsOfPlace_37 : decode cX6_mapsOfPlace 37 = .ok (.istore_n 3, 1) := by decide +kernel
theorem dX6_mapsOfPlace_38 : decode cX6_mapsOfPlace 38 = .ok (.iload_n 3, 1) := by decide +kernel
theorem dX6_mapsOfPlace_39 : decode cX6_mapsOfPlace 39 = .ok (.ifCond .ge 5, 3) := by decide +kernel
theorem dX6_mapsOfPlace_42 : decode cX6_mapsOfPlace 42 = .ok (.iconst 0, 1) := by decide +kernel
theorem dX6_mapsOfPlace_43 : decode cX6_mapsOfPlace 43 = .ok (.ireturn, 1) := by decide +kernel
theorem dX6_mapsOfPlace_44 : decode cX6_mapsOfPlace 44 = .ok (.aload_n 0, 1) := by decide +kernel
theorem dX6_mapsOfPlace_45 : decode cX6_mapsOfPlace 45 = .ok (.getfield 12, 3) := by decide +kernel
theorem dX6_mapsOfPlace_48 : decode cX6_mapsOfPlace 48 = .ok (.getfield 136, 3) := by decide +kernel
theorem dX6_mapsOfPlace_51 : decode cX6_mapsOfPlace 51 = .ok (.iload_n 1, 1) := by decide +kernel
theorem dX6_mapsOfPlace_52 : decode cX6_mapsOfPlace 52 = .ok (.iaload, 1) := by decide +kernel
theorem dX6_mapsOfPlace_53 : decode cX6_mapsOfPlace 53 = .ok (.iload_n 3, 1) := by decide +kernel
theorem dX6_mapsOfPlace_54 : decode cX6_mapsOfPlace 54 = .ok (.ishr, 1) := by decide +kernel
theorem dX6_mapsOfPlace_55 : decode cX6_mapsOfPlace 55 = .ok (.iconst 1, 1) := by decide +kernel
theorem dX6_mapsOfPlace_56 : decode cX6_mapsOfPlace 56 = .ok (.iand, 1) := by decide +kernel
theorem dX6_mapsOfPlace_57 : decode cX6_mapsOfPlace 57 = .ok (.ifCond .eq 9, 3) := by decide +kernel
theorem dX6_mapsOfPlace_60 : decode cX6_mapsOfPlace 60 = .ok (.aload_n 0, 1) := by decide +kernel
theorem dX6_mapsOfPlace_61 : decode cX6_mapsOfPlace 61 = .ok (.iconst 3, 1) := by decide +kernel
theorem dX6_mapsOfPlace_62 : decode cX6_mapsOfPlace 62 = .ok (.invokevirtual 51, 3) := by decide +kernel
theorem dX6_mapsOfPlace_65 : decode cX6_mapsOfPlace 65 = .ok (.ireturn, 1) := by decide +kernel
theorem dX6_mapsOfPlace_66 : decode cX6_mapsOfPlace 66 = .ok (.aload_n 0, 1) := by decide +kernel
theorem dX6_mapsOfPlace_67 : decode cX6_mapsOfPlace 67 = .ok (.getfield 12, 3) := by decide +kernel
theorem dX6_mapsOfPlace_70 : decode cX6_mapsOfPlace 70 = .ok (.getfield 136, 3) := by decide +kernel
theorem dX6_mapsOfPlace_73 : decode cX6_mapsOfPlace 73 = .ok (.iload_n 1, 1) := by decide +kernel
theorem dX6_mapsOfPlace_74 : decode cX6_mapsOfPlace 74 = .ok (.dup2, 1) := by decide +kernel
theorem dX6_mapsOfPlace_75 : decode cX6_mapsOfPlace 75 = .ok (.iaload, 1) := by decide +kernel
theorem dX6_mapsOfPlace_76 : decode cX6_mapsOfPlace 76 = .ok (.iconst 1, 1) := by decide +kernel
theorem dX6_mapsOfPlace_77 : decode cX6_mapsOfPlace 77 = .ok (.iload_n 3, 1) := by decide +kernel
theorem dX6_mapsOfPlace_78 : decode cX6_mapsOfPlace 78 = .ok (.ishl, 1) := by decide +kernel
theorem dX6_mapsOfPlace_79 : decode cX6_mapsOfPlace 79 = .ok (.ior, 1) := by decide +kernel
theorem dX6_mapsOfPlace_80 : decode cX6_mapsOfPlace 80 = .ok (.iastore, 1) := by decide +kernel
theorem dX6_mapsOfPlace_81 : decode cX6_mapsOfPlace 81 = .ok (.aload_n 0, 1) := by decide +kernel
theorem dX6_mapsOfPlace_82 : decode cX6_mapsOfPlace 82 = .ok (.getfield 12, 3) := by decide +kernel
theorem dX6_mapsOfPlace_85 : decode cX6_mapsOfPlace 85 = .ok (.getfield 139, 3) := by decide +kernel
theorem dX6_mapsOfPlace_88 : decode cX6_mapsOfPlace 88 = .ok (.iload_n 3, 1) := by decide +kernel
theorem dX6_mapsOfPlace_89 : decode cX6_mapsOfPlace 89 = .ok (.dup2, 1) := by decide +kernel
theorem dX6_mapsOfPlace_90 : decode cX6_mapsOfPlace 90 = .ok (.iaload, 1) := by decide +kernel
theorem dX6_mapsOfPlace_91 : decode cX6_mapsOfPlace 91 = .ok (.iconst 1, 1) := by decide +kernel
theorem dX6_mapsOfPlace_92 : decode cX6_mapsOfPlace 92 = .ok (.iload_n 1, 1) := by decide +kernel
theorem dX6_mapsOfPlace_93 : decode cX6_mapsOfPlace 93 = .ok (.ishl, 1) := by decide +kernel
theorem dX6_mapsOfPlace_94 : decode cX6_mapsOfPlace 94 = .ok (.ior, 1) := by decide +kernel
theorem dX6_mapsOfPlace_95 : decode cX6_mapsOfPlace 95 = .ok (.iastore, 1) := by decide +kernel
theorem dX6_mapsOfPlace_96 : decode cX6_mapsOfPlace 96 = .ok (.aload_n 0, 1) := by decide +kernel
theorem dX6_mapsOfPlace_97 : decode cX6_mapsOfPlace 97 = .ok (.dup, 1) := by decide +kernel
theorem dX6_mapsOfPlace_98 : decode cX6_mapsOfPlace 98 = .ok (.getfield 18, 3) := by decide +kernel
theorem dX6_mapsOfPlace_101 : decode cX6_mapsOfPlace 101 = .ok (.iconst 1, 1) := by decide +kernel
theorem dX6_mapsOfPlace_102 : decode cX6_mapsOfPlace 102 = .ok (.iadd, 1) := by decide +kernel
theorem dX6_mapsOfPlace_103 : decode cX6_mapsOfPlace 103 = .ok (.putfield 18, 3) := by decide +kernel
theorem dX6_mapsOfPlace_106 : decode cX6_mapsOfPlace 106 = .ok (.iinc 2 1, 3) := by decide +kernel
theorem dX6_mapsOfPlace_109 : decode cX6_mapsOfPlace 109 = .ok (.goto (-107), 3) := by decide +kernel
theorem dX6_mapsOfPlace_112 : decode cX6_mapsOfPlace 112 = .ok (.iconst 1, 1) := by decide +kernel
theorem dX6_mapsOfPlace_113 : decode cX6_mapsOfPlace 113 = .ok (.ireturn, 1) := by decide +kernel
theorem dX6_placeLine_0 : decode cX6_placeLine 0 = .ok (.aload_n 0, 1) := by decide +kernel
theorem dX6_placeLine_1 : decode cX6_placeLine 1 = .ok (.getfield 12, 3) := by decide +kernel
theorem dX6_placeLine_4 : decode cX6_placeLine 4 = .ok (.getfield 120, 3) := by decide +kernel
theorem dX6_placeLine_7 : decode cX6_placeLine 7 = .ok (.istore_n 1, 1) := by decide +kernel
theorem dX6_placeLine_8 : decode cX6_placeLine 8 = .ok (.aload_n 0, 1) := by decide +kernel
theorem dX6_placeLine_9 : decode cX6_placeLine 9 = .ok (.aload_n 0, 1) := by decide +kernel
theorem dX6_placeLine_10 : decode cX6_placeLine 10 = .ok (.getfield 12, 3) := by decide +kernel
theorem dX6_placeLine_13 : decode cX6_placeLine 13 = .ok (.getfield 123, 3) := by decide +kernel
theorem dX6_placeLine_16 : decode cX6_placeLine 16 = .ok (.iload_n 1, 1) := by decide +kernel
theorem dX6_placeLine_17 : decode cX6_placeLine 17 = .ok (.invokevirtual 103, 3) := by decide +kernel
theorem dX6_placeLine_20 : decode cX6_placeLine 20 = .ok (.ifCond .eq 13, 3) := by decide +kernel
theorem dX6_placeLine_23 : decode cX6_placeLine 23 = .ok (.aload_n 0, 1) := by decide +kernel
theorem dX6_placeLine_24 : decode cX6_placeLine 24 = .ok (.sipush 140, 3) := by decide +kernel
theorem dX6_placeLine_27 : decode cX6_placeLine 27 = .ok (.invokevirtual 93, 3) := by decide +kernel
theorem dX6_placeLine_30 : decode cX6_placeLine 30 = .ok (.ifCond .ne 5, 3) := by decide +kernel
theorem dX6_placeLine_33 : decode cX6_placeLine 33 = .ok (.iconst 0, 1) := by decide +kernel
theorem dX6_placeLine_34 : decode cX6_placeLine 34 = .ok (.ireturn, 1) := by decide +kernel
theorem dX6_placeLine_35 : decode cX6_placeLine 35 = .ok (.aload_n 0, 1) := by decide +kernel
theorem dX6_placeLine_36 : decode cX6_placeLine 36 = .ok (.iconst 1, 1) := by decide +kernel
theorem dX6_placeLine_37 : decode cX6_placeLine 37 = .ok (.bipush 60, 2) := by decide +kernel
theorem dX6_placeLine_39 : decode cX6_placeLine 39 = .ok (.invokevirtual 107, 3) := by decide +kernel
theorem dX6_placeLine_42 : decode cX6_placeLine 42 = .ok (.istore_n 2, 1) := by decide +kernel
theorem dX6_placeLine_43 : decode cX6_placeLine 43 = .ok (.iload_n 2, 1) := by decide +kernel
theorem dX6_placeLine_44 : decode cX6_placeLine 44 = .ok (.ifCond .lt 13, 3) := by decide +kernel
theorem dX6_placeLine_47 : decode cX6_placeLine 47 = .ok (.aload_n 0, 1) := by decide +kernel
theorem dX6_placeLine_48 : decode cX6_placeLine 48 = .ok (.sipush 141, 3) := by decide +kernel
theorem dX6_placeLine_51 : decode cX6_placeLine 51 = .ok (.invokevirtual 93, 3) := by decide +kernel
theorem dX6_placeLine_54 : decode cX6_placeLine 54 = .ok (.ifCond .ne 5, 3) := by decide +kernel
theorem dX6_placeLine_57 : decode cX6_placeLine 57 = .ok (.iconst 0, 1) := by decide +kernel
theorem dX6_placeLine_58 : decode cX6_placeLine 58 = .ok (.ireturn, 1) := by decide +kernel
theorem dX6_placeLine_59 : decode cX6_placeLine 59 = .ok (.aload_n 0, 1) := by decide +kernel
theorem dX6_placeLine_60 : decode cX6_placeLine 60 = .ok (.iconst 0, 1) := by decide +kernel
theorem dX6_placeLine_61 : decode cX6_placeLine 61 = .ok (.bipush 9, 2) := by decide +kernel
theorem dX6_placeLine_63 : decode cX6_placeLine 63 = .ok (.invokevirtual 107, 3) := by decide +kernel
theorem dX6_placeLine_66 : decode cX6_placeLine 66 = .ok (.istore_n 3, 1) := by decide +kernel
theorem dX6_placeLine_67 : decode cX6_placeLine 67 = .ok (.iload_n 3, 1) := by decide +kernel
theorem dX6_placeLine_68 : decode cX6_placeLine 68 = .ok (.ifCond .lt 21, 3) := by decide +kernel
theorem dX6_placeLine_71 : decode cX6_placeLine 71 = .ok (.aload_n 0, 1) := by decide +kernel
theorem dX6_placeLine_72 : decode cX6_placeLine 72 = .ok (.sipush 146, 3) := by decide +kernel
theorem dX6_placeLine_75 : decode cX6_placeLine 75 = .ok (.invokevirtual 93, 3) := by decide +kernel
theorem dX6_placeLine_78 : decode cX6_placeLine 78 = .ok (.ifCond .eq 11, 3) := by decide +kernel
theorem dX6_placeLine_81 : decode cX6_placeLine 81 = .ok (.aload_n 0, 1) := by decide +kernel
theorem dX6_placeLine_82 : decode cX6_placeLine 82 = .ok (.iload_n 1, 1) := by decide +kernel
theorem dX6_placeLine_83 : decode cX6_placeLine 83 = .ok (.invokevirtual 126, 3) := by decide +kernel
theorem dX6_placeLine_86 : decode cX6_placeLine 86 = .ok (.ifCond .ne 5, 3) := by decide +kernel
theorem dX6_placeLine_89 : decode cX6_placeLine 89 = .ok (.iconst 0, 1) := by decide +kernel
theorem dX6_placeLine_90 : decode cX6_placeLine 90 = .ok (.ireturn, 1) := by decide +kernel
theorem dX6_placeLine_91 : decode cX6_placeLine 91 = .ok (.aload_n 0, 1) := by decide +kernel
theorem dX6_placeLine_92 : decode cX6_placeLine 92 = .ok (.getfield 12, 3) := by decide +kernel
theorem dX6_placeLine_95 : decode cX6_placeLine 95 = .ok (.getfield 80, 3) := by decide +kernel
theorem dX6_placeLine_98 : decode cX6_placeLine 98 = .ok (.getfield 84, 3) := by decide +kernel
theorem dX6_placeLine_101 : decode cX6_placeLine 101 = .ok (.bipush 15, 2) := by decide +kernel
theorem dX6_placeLine_103 : decode cX6_placeLine 103 = .ok (.iload_n 1, 1) := by decide +kernel
theorem dX6_placeLine_104 : decode cX6_placeLine 104 = .ok (.iadd, 1) := by decide +kernel
theorem dX6_placeLine_105 : decode cX6_placeLine 105 = .ok (.iload_n 2, 1) := by decide +kernel
theorem dX6_placeLine_106 : decode cX6_placeLine 106 = .ok (.iastore, 1) := by decide +kernel
theorem dX6_placeLine_107 : decode cX6_placeLine 107 = .ok (.aload_n 0, 1) := by decide +kernel
theorem dX6_placeLine_108 : decode cX6_placeLine 108 = .ok (.getfield 12, 3) := by decide +kernel
theorem dX6_placeLine_111 : decode cX6_placeLine 111 = .ok (.getfield 129, 3) := by decide +kernel
theorem dX6_placeLine_114 : decode cX6_placeLine 114 = .ok (.iload_n 1, 1) := by decide +kernel
theorem dX6_placeLine_115 : decode cX6_placeLine 115 = .ok (.iload_n 3, 1) := by decide +kernel
theorem dX6_placeLine_116 : decode cX6_placeLine 116 = .ok (.iastore, 1) := by decide +kernel
theorem dX6_placeLine_117 : decode cX6_placeLine 117 = .ok (.aload_n 0, 1) := by decide +kernel
theorem dX6_placeLine_118 : decode cX6_placeLine 118 = .ok (.getfield 12, 3) := by decide +kernel
theorem dX6_placeLine_121 : decode cX6_placeLine 121 = .ok (.dup, 1) := by decide +kernel
theorem dX6_placeLine_122 : decode cX6_placeLine 122 = .ok (.getfield 120, 3) := by decide +kernel
theorem dX6_placeLine_125 : decode cX6_placeLine 125 = .ok (.iconst 1, 1) := by decide +kernel
theorem dX6_placeLine_126 : decode cX6_placeLine 126 = .ok (.iadd, 1) := by decide +kernel
theorem dX6_placeLine_127 : decode cX6_placeLine 127 = .ok (.putfield 120, 3) := by decide +kernel
theorem dX6_placeLine_130 : decode cX6_placeLine 130 = .ok (.iconst 1, 1) := by decide +kernel
theorem dX6_placeLine_131 : decode cX6_placeLine 131 = .ok (.ireturn, 1) := by decide +kernel
theorem dX6_likesLine_0 : decode cX6_likesLine 0 = .ok (.aload_n 0, 1) := by decide +kernel
theorem dX6_likesLine_1 : decode cX6_likesLine 1 = .ok (.aload_n 0, 1) := by decide +kernel
theorem dX6_likesLine_2 : decode cX6_likesLine 2 = .ok (.getfield 12, 3) := by decide +kernel
theorem dX6_likesLine_5 : decode cX6_likesLine 5 = .ok (.getfield 114, 3) := by decide +kernel
theorem dX6_likesLine_8 : decode cX6_likesLine 8 = .ok (.aload_n 0, 1) := by decide +kernel
theorem dX6_likesLine_9 : decode cX6_likesLine 9 = .ok (.getfield 12, 3) := by decide +kernel
theorem dX6_likesLine_12 : decode cX6_likesLine 12 = .ok (.getfield 111, 3) := by decide +kernel
theorem dX6_likesLine_15 : decode cX6_likesLine 15 = .ok (.invokevirtual 132, 3) := by decide +kernel
theorem dX6_likesLine_18 : decode cX6_likesLine 18 = .ok (.istore_n 1, 1) := by decide +kernel
theorem dX6_likesLine_19 : decode cX6_likesLine 19 = .ok (.iload_n 1, 1) := by decide +kernel
theorem dX6_likesLine_20 : decode cX6_likesLine 20 = .ok (.ifCond .ge 5, 3) := by decide +kernel
theorem dX6_likesLine_23 : decode cX6_likesLine 23 = .ok (.iconst 0, 1) := by decide +kernel
theorem dX6_likesLine_24 : decode cX6_likesLine 24 = .ok (.ireturn, 1) := by decide +kernel
theorem dX6_likesLine_25 : decode cX6_likesLine 25 = .ok (.aload_n 0, 1) := by decide +kernel
theorem dX6_likesLine_26 : decode cX6_likesLine 26 = .ok (.dup, 1) := by decide +kernel
theorem dX6_likesLine_27 : decode cX6_likesLine 27 = .ok (.getfield 18, 3) := by decide +kernel
theorem dX6_likesLine_30 : decode cX6_likesLine 30 = .ok (.iconst 1, 1) := by decide +kernel
theorem dX6_likesLine_31 : decode cX6_likesLine 31 = .ok (.iadd, 1) := by decide +kernel
theorem dX6_likesLine_32 : decode cX6_likesLine 32 = .ok (.putfield 18, 3) := by decide +kernel
theorem dX6_likesLine_35 : decode cX6_likesLine 35 = .ok (.aload_n 0, 1) := by decide +kernel
theorem dX6_likesLine_36 : decode cX6_likesLine 36 = .ok (.aload_n 0, 1) := by decide +kernel
theorem dX6_likesLine_37 : decode cX6_likesLine 37 = .ok (.getfield 12, 3) := by decide +kernel
theorem dX6_likesLine_40 : decode cX6_likesLine 40 = .ok (.getfield 96, 3) := by decide +kernel
theorem dX6_likesLine_43 : decode cX6_likesLine 43 = .ok (.aload_n 0, 1) := by decide +kernel
theorem dX6_likesLine_44 : decode cX6_likesLine 44 = .ok (.getfield 12, 3) := by decide +kernel
theorem dX6_likesLine_47 : decode cX6_likesLine 47 = .ok (.getfield 100, 3) := by decide +kernel
theorem dX6_likesLine_50 : decode cX6_likesLine 50 = .ok (.invokevirtual 132, 3) := by decide +kernel
theorem dX6_likesLine_53 : decode cX6_likesLine 53 = .ok (.istore_n 2, 1) := by decide +kernel
theorem dX6_likesLine_54 : decode cX6_likesLine 54 = .ok (.iload_n 2, 1) := by decide +kernel
theorem dX6_likesLine_55 : decode cX6_likesLine 55 = .ok (.ifCond .ge 5, 3) := by decide +kernel
theorem dX6_likesLine_58 : decode cX6_likesLine 58 = .ok (.iconst 0, 1) := by decide +kernel
theorem dX6_likesLine_59 : decode cX6_likesLine 59 = .ok (.ireturn, 1) := by decide +kernel
theorem dX6_likesLine_60 : decode cX6_likesLine 60 = .ok (.iload_n 1, 1) := by decide +kernel
theorem dX6_likesLine_61 : decode cX6_likesLine 61 = .ok (.iconst 3, 1) := by decide +kernel
theorem dX6_likesLine_62 : decode cX6_likesLine 62 = .ok (.imul, 1) := by decide +kernel
theorem dX6_likesLine_63 : decode cX6_likesLine 63 = .ok (.iload_n 2, 1) := by decide +kernel
theorem dX6_likesLine_64 : decode cX6_likesLine 64 = .ok (.iadd, 1) := by decide +kernel
theorem dX6_likesLine_65 : decode cX6_likesLine 65 = .ok (.istore_n 3, 1) := by decide +kernel
theorem dX6_likesLine_66 : decode cX6_likesLine 66 = .ok (.aload_n 0, 1) := by decide +kernel
theorem dX6_likesLine_67 : decode cX6_likesLine 67 = .ok (.getfield 12, 3) := by decide +kernel
theorem dX6_likesLine_70 : decode cX6_likesLine 70 = .ok (.getfield 142, 3) := by decide +kernel
theorem dX6_likesLine_73 : decode cX6_likesLine 73 = .ok (.iload_n 3, 1) := by decide +kernel
theorem dX6_likesLine_74 : decode cX6_likesLine 74 = .ok (.ishr, 1) := by decide +kernel
theorem dX6_likesLine_75 : decode cX6_likesLine 75 = .ok (.iconst 1, 1) := by decide +kernel
theorem dX6_likesLine_76 : decode cX6_likesLine 76 = .ok (.iand, 1) := by decide +kernel
theorem dX6_likesLine_77 : decode cX6_likesLine 77 = .ok (.ifCond .eq 9, 3) := by decide +kernel
theorem dX6_likesLine_80 : decode cX6_likesLine 80 = .ok (.aload_n 0, 1) := by decide +kernel
theorem dX6_likesLine_81 : decode cX6_likesLine 81 = .ok (.iconst 3, 1) := by decide +kernel
theorem dX6_likesLine_82 : decode cX6_likesLine 82 = .ok (.invokevirtual 51, 3) := by decide +kernel
theorem dX6_likesLine_85 : decode cX6_likesLine 85 = .ok (.ireturn, 1) := by decide +kernel
theorem dX6_likesLine_86 : decode cX6_likesLine 86 = .ok (.aload_n 0, 1) := by decide +kernel
theorem dX6_likesLine_87 : decode cX6_likesLine 87 = .ok (.dup, 1) := by decide +kernel
theorem dX6_likesLine_88 : decode cX6_likesLine 88 = .ok (.getfield 18, 3) := by decide +kernel
theorem dX6_likesLine_91 : decode cX6_likesLine 91 = .ok (.iconst 1, 1) := by decide +kernel
theorem dX6_likesLine_92 : decode cX6_likesLine 92 = .ok (.iadd, 1) := by decide +kernel
theorem dX6_likesLine_93 : decode cX6_likesLine 93 = .ok (.putfield 18, 3) := by decide +kernel
theorem dX6_likesLine_96 : decode cX6_likesLine 96 = .ok (.aload_n 0, 1) := by decide +kernel
theorem dX6_likesLine_97 : decode cX6_likesLine 97 = .ok (.iconst 0, 1) := by decide +kernel
theorem dX6_likesLine_98 : decode cX6_likesLine 98 = .ok (.bipush 9, 2) := by decide +kernel
theorem dX6_likesLine_100 : decode cX6_likesLine 100 = .ok (.invokevirtual 107, 3) := by decide +kernel
theorem dX6_likesLine_103 : decode cX6_likesLine 103 = .ok (.istore 4, 2) := by decide +kernel
theorem dX6_likesLine_105 : decode cX6_likesLine 105 = .ok (.iload 4, 2) := by decide +kernel
theorem dX6_likesLine_107 : decode cX6_likesLine 107 = .ok (.ifCond .ge 5, 3) := by decide +kernel
theorem dX6_likesLine_110 : decode cX6_likesLine 110 = .ok (.iconst 0, 1) := by decide +kernel
theorem dX6_likesLine_111 : decode cX6_likesLine 111 = .ok (.ireturn, 1) := by decide +kernel
theorem dX6_likesLine_112 : decode cX6_likesLine 112 = .ok (.aload_n 0, 1) := by decide +kernel
theorem dX6_likesLine_113 : decode cX6_likesLine 113 = .ok (.getfield 12, 3) := by decide +kernel
theorem dX6_likesLine_116 : decode cX6_likesLine 116 = .ok (.dup, 1) := by decide +kernel
theorem dX6_likesLine_117 : decode cX6_likesLine 117 = .ok (.getfield 142, 3) := by decide +kernel
theorem dX6_likesLine_120 : decode cX6_likesLine 120 = .ok (.iconst 1, 1) := by decide +kernel
theorem dX6_likesLine_121 : decode cX6_likesLine 121 = .ok (.iload_n 3, 1) := by decide +kernel
theorem dX6_likesLine_122 : decode cX6_likesLine 122 = .ok (.ishl, 1) := by decide +kernel
theorem dX6_likesLine_123 : decode cX6_likesLine 123 = .ok (.ior, 1) := by decide +kernel
theorem dX6_likesLine_124 : decode cX6_likesLine 124 = .ok (.putfield 142, 3) := by decide +kernel
theorem dX6_likesLine_127 : decode cX6_likesLine 127 = .ok (.aload_n 0, 1) := by decide +kernel
theorem dX6_likesLine_128 : decode cX6_likesLine 128 = .ok (.getfield 12, 3) := by decide +kernel
theorem dX6_likesLine_131 : decode cX6_likesLine 131 = .ok (.getfield 145, 3) := by decide +kernel
theorem dX6_likesLine_134 : decode cX6_likesLine 134 = .ok (.iload_n 3, 1) := by decide +kernel
theorem dX6_likesLine_135 : decode cX6_likesLine 135 = .ok (.iload 4, 2) := by decide +kernel
theorem dX6_likesLine_137 : decode cX6_likesLine 137 = .ok (.iastore, 1) := by decide +kernel
theorem dX6_likesLine_138 : decode cX6_likesLine 138 = .ok (.iconst 1, 1) := by decide +kernel
theorem dX6_likesLine_139 : decode cX6_likesLine 139 = .ok (.ireturn, 1) := by decide +kernel
theorem dX6_borderLine_0 : decode cX6_borderLine 0 = .ok (.aload_n 0, 1) := by decide +kernel
theorem dX6_borderLine_1 : decode cX6_borderLine 1 = .ok (.aload_n 0, 1) := by decide +kernel
theorem dX6_borderLine_2 : decode cX6_borderLine 2 = .ok (.getfield 12, 3) := by decide +kernel
theorem dX6_borderLine_5 : decode cX6_borderLine 5 = .ok (.getfield 114, 3) := by decide +kernel
theorem dX6_borderLine_8 : decode cX6_borderLine 8 = .ok (.aload_n 0, 1) := by decide +kernel
theorem dX6_borderLine_9 : decode cX6_borderLine 9 = .ok (.getfield 12, 3) := by decide +kernel
theorem dX6_borderLine_12 : decode cX6_borderLine 12 = .ok (.getfield 111, 3) := by decide +kernel
theorem dX6_borderLine_15 : decode cX6_borderLine 15 = .ok (.invokevirtual 132, 3) := by decide +kernel
theorem dX6_borderLine_18 : decode cX6_borderLine 18 = .ok (.istore_n 1, 1) := by decide +kernel
theorem dX6_borderLine_19 : decode cX6_borderLine 19 = .ok (.iload_n 1, 1) := by decide +kernel
theorem dX6_borderLine_20 : decode cX6_borderLine 20 = .ok (.ifCond .ge 5, 3) := by decide +kernel
theorem dX6_borderLine_23 : decode cX6_borderLine 23 = .ok (.iconst 0, 1) := by decide +kernel
theorem dX6_borderLine_24 : decode cX6_borderLine 24 = .ok (.ireturn, 1) := by decide +kernel
theorem dX6_borderLine_25 : decode cX6_borderLine 25 = .ok (.aload_n 0, 1) := by decide +kernel
theorem dX6_borderLine_26 : decode cX6_borderLine 26 = .ok (.dup, 1) := by decide +kernel
theorem dX6_borderLine_27 : decode cX6_borderLine 27 = .ok (.getfield 18, 3) := by decide +kernel
theorem dX6_borderLine_30 : decode cX6_borderLine 30 = .ok (.iconst 1, 1) := by decide +kernel
theorem dX6_borderLine_31 : decode cX6_borderLine 31 = .ok (.iadd, 1) := by decide +kernel
theorem dX6_borderLine_32 : decode cX6_borderLine 32 = .ok (.putfield 18, 3) := by decide +kernel
theorem dX6_borderLine_35 : decode cX6_borderLine 35 = .ok (.aload_n 0, 1) := by decide +kernel
theorem dX6_borderLine_36 : decode cX6_borderLine 36 = .ok (.aload_n 0, 1) := by decide +kernel
theorem dX6_borderLine_37 : decode cX6_borderLine 37 = .ok (.getfield 12, 3) := by decide +kernel
theorem dX6_borderLine_40 : decode cX6_borderLine 40 = .ok (.getfield 114, 3) := by decide +kernel
theorem dX6_borderLine_43 : decode cX6_borderLine 43 = .ok (.aload_n 0, 1) := by decide +kernel
theorem dX6_borderLine_44 : decode cX6_borderLine 44 = .ok (.getfield 12, 3) := by decide +kernel
theorem dX6_borderLine_47 : decode cX6_borderLine 47 = .ok (.getfield 111, 3) := by decide +kernel
theorem dX6_borderLine_50 : decode cX6_borderLine 50 = .ok (.invokevirtual 132, 3) := by decide +kernel
theorem dX6_borderLine_53 : decode cX6_borderLine 53 = .ok (.istore_n 2, 1) := by decide +kernel
theorem dX6_borderLine_54 : decode cX6_borderLine 54 = .ok (.iload_n 2, 1) := by decide +kernel
theorem dX6_borderLine_55 : decode cX6_borderLine 55 = .ok (.ifCond .ge 5, 3) := by decide +kernel
theorem dX6_borderLine_58 : decode cX6_borderLine 58 = .ok (.iconst 0, 1) := by decide +kernel
theorem dX6_borderLine_59 : decode cX6_borderLine 59 = .ok (.ireturn, 1) := by decide +kernel
theorem dX6_borderLine_60 : decode cX6_borderLine 60 = .ok (.iload_n 1, 1) := by decide +kernel
theorem dX6_borderLine_61 : decode cX6_borderLine 61 = .ok (.iload_n 2, 1) := by decide +kernel
theorem dX6_borderLine_62 : decode cX6_borderLine 62 = .ok (.if_icmp .eq 19, 3) := by decide +kernel
theorem dX6_borderLine_65 : decode cX6_borderLine 65 = .ok (.aload_n 0, 1) := by decide +kernel
theorem dX6_borderLine_66 : decode cX6_borderLine 66 = .ok (.getfield 12, 3) := by decide +kernel
theorem dX6_borderLine_69 : decode cX6_borderLine 69 = .ok (.getfield 148, 3) := by decide +kernel
theorem dX6_borderLine_72 : decode cX6_borderLine 72 = .ok (.iload_n 1, 1) := by decide +kernel
theorem dX6_borderLine_73 : decode cX6_borderLine 73 = .ok (.iaload, 1) := by decide +kernel
theorem dX6_borderLine_74 : decode cX6_borderLine 74 = .ok (.iload_n 2, 1) := by decide +kernel
theorem dX6_borderLine_75 : decode cX6_borderLine 75 = .ok (.ishr, 1) := by decide +kernel
theorem dX6_borderLine_76 : decode cX6_borderLine 76 = .ok (.iconst 1, 1) := by decide +kernel
theorem dX6_borderLine_77 : decode cX6_borderLine 77 = .ok (.iand, 1) := by decide +kernel
theorem dX6_borderLine_78 : decode cX6_borderLine 78 = .ok (.ifCond .eq 9, 3) := by decide +kernel
theorem dX6_borderLine_81 : decode cX6_borderLine 81 = .ok (.aload_n 0, 1) := by decide +kernel
theorem dX6_borderLine_82 : decode cX6_borderLine 82 = .ok (.iconst 3, 1) := by decide +kernel
theorem dX6_borderLine_83 : decode cX6_borderLine 83 = .ok (.invokevirtual 51, 3) := by decide +kernel
theorem dX6_borderLine_86 : decode cX6_borderLine 86 = .ok (.ireturn, 1) := by decide +kernel
theorem dX6_borderLine_87 : decode cX6_borderLine 87 = .ok (.aload_n 0, 1) := by decide +kernel
theorem dX6_borderLine_88 : decode cX6_borderLine 88 = .ok (.dup, 1) := by decide +kernel
theorem dX6_borderLine_89 : decode cX6_borderLine 89 = .ok (.getfield 18, 3) := by decide +kernel
theorem dX6_borderLine_92 : decode cX6_borderLine 92 = .ok (.iconst 1, 1) := by decide +kernel
theorem dX6_borderLine_93 : decode cX6_borderLine 93 = .ok (.iadd, 1) := by decide +kernel
theorem dX6_borderLine_94 : decode cX6_borderLine 94 = .ok (.putfield 18, 3) := by decide +kernel
theorem dX6_borderLine_97 : decode cX6_borderLine 97 = .ok (.aload_n 0, 1) := by decide +kernel
theorem dX6_borderLine_98 : decode cX6_borderLine 98 = .ok (.getfield 12, 3) := by decide +kernel
theorem dX6_borderLine_101 : decode cX6_borderLine 101 = .ok (.getfield 148, 3) := by decide +kernel
theorem dX6_borderLine_104 : decode cX6_borderLine 104 = .ok (.iload_n 1, 1) := by decide +kernel
theorem dX6_borderLine_105 : decode cX6_borderLine 105 = .ok (.dup2, 1) := by decide +kernel
theorem dX6_borderLine_106 : decode cX6_borderLine 106 = .ok (.iaload, 1) := by decide +kernel
theorem dX6_borderLine_107 : decode cX6_borderLine 107 = .ok (.iconst 1, 1) := by decide +kernel
theorem dX6_borderLine_108 : decode cX6_borderLine 108 = .ok (.iload_n 2, 1) := by decide +kernel
theorem dX6_borderLine_109 : decode cX6_borderLine 109 = .ok (.ishl, 1) := by decide +kernel
theorem dX6_borderLine_110 : decode cX6_borderLine 110 = .ok (.ior, 1) := by decide +kernel
theorem dX6_borderLine_111 : decode cX6_borderLine 111 = .ok (.iastore, 1) := by decide +kernel
theorem dX6_borderLine_112 : decode cX6_borderLine 112 = .ok (.aload_n 0, 1) := by decide +kernel
theorem dX6_borderLine_113 : decode cX6_borderLine 113 = .ok (.getfield 12, 3) := by decide +kernel
theorem dX6_borderLine_116 : decode cX6_borderLine 116 = .ok (.getfield 148, 3) := by decide +kernel
theorem dX6_borderLine_119 : decode cX6_borderLine 119 = .ok (.iload_n 2, 1) := by decide +kernel
theorem dX6_borderLine_120 : decode cX6_borderLine 120 = .ok (.dup2, 1) := by decide +kernel
theorem dX6_borderLine_121 : decode cX6_borderLine 121 = .ok (.iaload, 1) := by decide +kernel
theorem dX6_borderLine_122 : decode cX6_borderLine 122 = .ok (.iconst 1, 1) := by decide +kernel
theorem dX6_borderLine_123 : decode cX6_borderLine 123 = .ok (.iload_n 1, 1) := by decide +kernel
theorem dX6_borderLine_124 : decode cX6_borderLine 124 = .ok (.ishl, 1) := by decide +kernel
theorem dX6_borderLine_125 : decode cX6_borderLine 125 = .ok (.ior, 1) := by decide +kernel
theorem dX6_borderLine_126 : decode cX6_borderLine 126 = .ok (.iastore, 1) := by decide +kernel
theorem dX6_borderLine_127 : decode cX6_borderLine 127 = .ok (.aload_n 0, 1) := by decide +kernel
theorem dX6_borderLine_128 : decode cX6_borderLine 128 = .ok (.getfield 12, 3) := by decide +kernel
theorem dX6_borderLine_131 : decode cX6_borderLine 131 = .ok (.dup, 1) := by decide +kernel
theorem dX6_borderLine_132 : decode cX6_borderLine 132 = .ok (.getfield 151, 3) := by decide +kernel
theorem dX6_borderLine_135 : decode cX6_borderLine 135 = .ok (.iconst 1, 1) := by decide +kernel
theorem dX6_borderLine_136 : decode cX6_borderLine 136 = .ok (.iadd, 1) := by decide +kernel
theorem dX6_borderLine_137 : decode cX6_borderLine 137 = .ok (.putfield 151, 3) := by decide +kernel
theorem dX6_borderLine_140 : decode cX6_borderLine 140 = .ok (.iconst 1, 1) := by decide +kernel
theorem dX6_borderLine_141 : decode cX6_borderLine 141 = .ok (.ireturn, 1) := by decide +kernel
theorem dX6_drawLine_0 : decode cX6_drawLine 0 = .ok (.aload_n 0, 1) := by decide +kernel
theorem dX6_drawLine_1 : decode cX6_drawLine 1 = .ok (.iconst 0, 1) := by decide +kernel
theorem dX6_drawLine_2 : decode cX6_drawLine 2 = .ok (.sipush 999, 3) := by decide +kernel
theorem dX6_drawLine_5 : decode cX6_drawLine 5 = .ok (.invokevirtual 107, 3) := by decide +kernel
theorem dX6_drawLine_8 : decode cX6_drawLine 8 = .ok (.istore_n 1, 1) := by decide +kernel
theorem dX6_drawLine_9 : decode cX6_drawLine 9 = .ok (.iload_n 1, 1) := by decide +kernel
theorem dX6_drawLine_10 : decode cX6_drawLine 10 = .ok (.ifCond .ge 5, 3) := by decide +kernel
theorem dX6_drawLine_13 : decode cX6_drawLine 13 = .ok (.iconst 0, 1) := by decide +kernel
theorem dX6_drawLine_14 : decode cX6_drawLine 14 = .ok (.ireturn, 1) := by decide +kernel
theorem dX6_drawLine_15 : decode cX6_drawLine 15 = .ok (.aload_n 0, 1) := by decide +kernel
theorem dX6_drawLine_16 : decode cX6_drawLine 16 = .ok (.getfield 12, 3) := by decide +kernel
theorem dX6_drawLine_19 : decode cX6_drawLine 19 = .ok (.iconst 1, 1) := by decide +kernel
theorem dX6_drawLine_20 : decode cX6_drawLine 20 = .ok (.putfield 154, 3) := by decide +kernel
theorem dX6_drawLine_23 : decode cX6_drawLine 23 = .ok (.aload_n 0, 1) := by decide +kernel
theorem dX6_drawLine_24 : decode cX6_drawLine 24 = .ok (.getfield 12, 3) := by decide +kernel
theorem dX6_drawLine_27 : decode cX6_drawLine 27 = .ok (.getfield 80, 3) := by decide +kernel
theorem dX6_drawLine_30 : decode cX6_drawLine 30 = .ok (.getfield 84, 3) := by decide +kernel
theorem dX6_drawLine_33 : decode cX6_drawLine 33 = .ok (.bipush 42, 2) := by decide +kernel
theorem dX6_drawLine_35 : decode cX6_drawLine 35 = .ok (.iload_n 1, 1) := by decide +kernel
theorem dX6_drawLine_36 : decode cX6_drawLine 36 = .ok (.iastore, 1) := by decide +kernel
theorem dX6_drawLine_37 : decode cX6_drawLine 37 = .ok (.iconst 1, 1) := by decide +kernel
theorem dX6_drawLine_38 : decode cX6_drawLine 38 = .ok (.ireturn, 1) := by decide +kernel
theorem dX6_readAll_0 : decode cX6_readAll 0 = .ok (.aload_n 0, 1) := by decide +kernel
theorem dX6_readAll_1 : decode cX6_readAll 1 = .ok (.getfield 12, 3) := by decide +kernel
theorem dX6_readAll_4 : decode cX6_readAll 4 = .ok (.invokevirtual 35, 3) := by decide +kernel
theorem dX6_readAll_7 : decode cX6_readAll 7 = .ok (.aload_n 0, 1) := by decide +kernel
theorem dX6_readAll_8 : decode cX6_readAll 8 = .ok (.iconst 0, 1) := by decide +kernel
theorem dX6_readAll_9 : decode cX6_readAll 9 = .ok (.putfield 18, 3) := by decide +kernel
theorem dX6_readAll_12 : decode cX6_readAll 12 = .ok (.aload_n 0, 1) := by decide +kernel
theorem dX6_readAll_13 : decode cX6_readAll 13 = .ok (.iconst 0, 1) := by decide +kernel
theorem dX6_readAll_14 : decode cX6_readAll 14 = .ok (.putfield 25, 3) := by decide +kernel
theorem dX6_readAll_17 : decode cX6_readAll 17 = .ok (.aload_n 0, 1) := by decide +kernel
theorem dX6_readAll_18 : decode cX6_readAll 18 = .ok (.iconst (-1), 1) := by decide +kernel
theorem dX6_readAll_19 : decode cX6_readAll 19 = .ok (.putfield 28, 3) := by decide +kernel
theorem dX6_readAll_22 : decode cX6_readAll 22 = .ok (.iconst 1, 1) := by decide +kernel
theorem dX6_readAll_23 : decode cX6_readAll 23 = .ok (.istore_n 1, 1) := by decide +kernel
theorem dX6_readAll_24 : decode cX6_readAll 24 = .ok (.iconst 0, 1) := by decide +kernel
theorem dX6_readAll_25 : decode cX6_readAll 25 = .ok (.istore_n 2, 1) := by decide +kernel
theorem dX6_readAll_26 : decode cX6_readAll 26 = .ok (.iload_n 1, 1) := by decide +kernel
theorem dX6_readAll_27 : decode cX6_readAll 27 = .ok (.ifCond .eq 209, 3) := by decide +kernel
theorem dX6_readAll_30 : decode cX6_readAll 30 = .ok (.iload_n 2, 1) := by decide +kernel
theorem dX6_readAll_31 : decode cX6_readAll 31 = .ok (.aload_n 0, 1) := by decide +kernel
theorem dX6_readAll_32 : decode cX6_readAll 32 = .ok (.getfield 31, 3) := by decide +kernel
theorem dX6_readAll_35 : decode cX6_readAll 35 = .ok (.getfield 38, 3) := by decide +kernel
theorem dX6_readAll_38 : decode cX6_readAll 38 = .ok (.if_icmp .ge 198, 3) := by decide +kernel
theorem dX6_readAll_41 : decode cX6_readAll 41 = .ok (.aload_n 0, 1) := by decide +kernel
theorem dX6_readAll_42 : decode cX6_readAll 42 = .ok (.invokevirtual 43, 3) := by decide +kernel
theorem dX6_readAll_45 : decode cX6_readAll 45 = .ok (.ifCond .eq 191, 3) := by decide +kernel
theorem dX6_readAll_48 : decode cX6_readAll 48 = .ok (.aload_n 0, 1) := by decide +kernel
theorem dX6_readAll_49 : decode cX6_readAll 49 = .ok (.invokevirtual 43, 3) := by decide +kernel
theorem dX6_readAll_52 : decode cX6_readAll 52 = .ok (.istore_n 3, 1) := by decide +kernel
theorem dX6_readAll_53 : decode cX6_readAll 53 = .ok (.aload_n 0, 1) := by decide +kernel
theorem dX6_readAll_54 : decode cX6_readAll 54 = .ok (.getfield 12, 3) := by decide +kernel
theorem dX6_readAll_57 : decode cX6_readAll 57 = .ok (.iload_n 3, 1) := by decide +kernel
theorem dX6_readAll_58 : decode cX6_readAll 58 = .ok (.invokevirtual 47, 3) := by decide +kernel
theorem dX6_readAll_61 : decode cX6_readAll 61 = .ok (.ifCond .ne 9, 3) := by decide +kernel
theorem dX6_readAll_64 : decode cX6_readAll 64 = .ok (.aload_n 0, 1) := by decide +kernel
theorem dX6_readAll_65 : decode cX6_readAll 65 = .ok (.iconst 2, 1) := by decide +kernel
theorem dX6_readAll_66 : decode cX6_readAll 66 = .ok (.invokevirtual 51, 3) := by decide +kernel
theorem dX6_readAll_69 : decode cX6_readAll 69 = .ok (.ireturn, 1) := by decide +kernel
theorem dX6_readAll_70 : decode cX6_readAll 70 = .ok (.aload_n 0, 1) := by decide +kernel
theorem dX6_readAll_71 : decode cX6_readAll 71 = .ok (.dup, 1) := by decide +kernel
theorem dX6_readAll_72 : decode cX6_readAll 72 = .ok (.getfield 18, 3) := by decide +kernel
theorem dX6_readAll_75 : decode cX6_readAll 75 = .ok (.iconst 1, 1) := by decide +kernel
theorem dX6_readAll_76 : decode cX6_readAll 76 = .ok (.iadd, 1) := by decide +kernel
theorem dX6_readAll_77 : decode cX6_readAll 77 = .ok (.putfield 18, 3) := by decide +kernel
theorem dX6_readAll_80 : decode cX6_readAll 80 = .ok (.iload_n 3, 1) := by decide +kernel
theorem dX6_readAll_81 : decode cX6_readAll 81 = .ok (.tableswitch 125 128 134 #[43, 51, 59, 67, 75, 83, 100], 43) := by decide +kernel
theorem dX6_readAll_124 : decode cX6_readAll 124 = .ok (.aload_n 0, 1) := by decide +kernel
theorem dX6_readAll_125 : decode cX6_readAll 125 = .ok (.invokevirtual 54, 3) := by decide +kernel
theorem dX6_readAll_128 : decode cX6_readAll 128 = .ok (.istore_n 1, 1) := by decide +kernel
theorem dX6_readAll_129 : decode cX6_readAll 129 = .ok (.goto 82, 3) := by decide +kernel
theorem dX6_readAll_132 : decode cX6_readAll 132 = .ok (.aload_n 0, 1) := by decide +kernel
theorem dX6_readAll_133 : decode cX6_readAll 133 = .ok (.invokevirtual 58, 3) := by decide +kernel
theorem dX6_readAll_136 : decode cX6_readAll 136 = .ok (.istore_n 1, 1) := by decide +kernel
theorem dX6_readAll_137 : decode cX6_readAll 137 = .ok (.goto 74, 3) := by decide +kernel
theorem dX6_readAll_140 : decode cX6_readAll 140 = .ok (.aload_n 0, 1) := by decide +kernel
theorem dX6_readAll_141 : decode cX6_readAll 141 = .ok (.invokevirtual 61, 3) := by decide +kernel
theorem dX6_readAll_144 : decode cX6_readAll 144 = .ok (.istore_n 1, 1) := by decide +kernel
theorem dX6_readAll_145 : decode cX6_readAll 145 = .ok (.goto 66, 3) := by decide +kernel
theorem dX6_readAll_148 : decode cX6_readAll 148 = .ok (.aload_n 0, 1) := by decide +kernel
theorem dX6_readAll_149 : decode cX6_readAll 149 = .ok (.invokevirtual 64, 3) := by decide +kernel
theorem dX6_readAll_152 : decode cX6_readAll 152 = .ok (.istore_n 1, 1) := by decide +kernel
theorem dX6_readAll_153 : decode cX6_readAll 153 = .ok (.goto 58, 3) := by decide +kernel
theorem dX6_readAll_156 : decode cX6_readAll 156 = .ok (.aload_n 0, 1) := by decide +kernel
theorem dX6_readAll_157 : decode cX6_readAll 157 = .ok (.invokevirtual 67, 3) := by decide +kernel
theorem dX6_readAll_160 : decode cX6_readAll 160 = .ok (.istore_n 1, 1) := by decide +kernel
theorem dX6_readAll_161 : decode cX6_readAll 161 = .ok (.goto 50, 3) := by decide +kernel
theorem dX6_readAll_164 : decode cX6_readAll 164 = .ok (.aload_n 0, 1) := by decide +kernel
theorem dX6_readAll_165 : decode cX6_readAll 165 = .ok (.getfield 12, 3) := by decide +kernel
theorem dX6_readAll_168 : decode cX6_readAll 168 = .ok (.iconst 1, 1) := by decide +kernel
theorem dX6_readAll_169 : decode cX6_readAll 169 = .ok (.putfield 70, 3) := by decide +kernel
theorem dX6_readAll_172 : decode cX6_readAll 172 = .ok (.aload_n 0, 1) := by decide +kernel
theorem dX6_readAll_173 : decode cX6_readAll 173 = .ok (.iconst 4, 1) := by decide +kernel
theorem dX6_readAll_174 : decode cX6_readAll 174 = .ok (.invokevirtual 74, 3) := by decide +kernel
theorem dX6_readAll_177 : decode cX6_readAll 177 = .ok (.istore_n 1, 1) := by decide +kernel
theorem dX6_readAll_178 : decode cX6_readAll 178 = .ok (.goto 33, 3) := by decide +kernel
theorem dX6_readAll_181 : decode cX6_readAll 181 = .ok (.aload_n 0, 1) := by decide +kernel
theorem dX6_readAll_182 : decode cX6_readAll 182 = .ok (.getfield 12, 3) := by decide +kernel
theorem dX6_readAll_185 : decode cX6_readAll 185 = .ok (.iconst 1, 1) := by decide +kernel
theorem dX6_readAll_186 : decode cX6_readAll 186 = .ok (.putfield 77, 3) := by decide +kernel
theorem dX6_readAll_189 : decode cX6_readAll 189 = .ok (.aload_n 0, 1) := by decide +kernel
theorem dX6_readAll_190 : decode cX6_readAll 190 = .ok (.getfield 12, 3) := by decide +kernel
theorem dX6_readAll_193 : decode cX6_readAll 193 = .ok (.getfield 80, 3) := by decide +kernel
theorem dX6_readAll_196 : decode cX6_readAll 196 = .ok (.getfield 84, 3) := by decide +kernel
theorem dX6_readAll_199 : decode cX6_readAll 199 = .ok (.bipush 41, 2) := by decide +kernel
theorem dX6_readAll_201 : decode cX6_readAll 201 = .ok (.iconst 1, 1) := by decide +kernel
theorem dX6_readAll_202 : decode cX6_readAll 202 = .ok (.iastore, 1) := by decide +kernel
theorem dX6_readAll_203 : decode cX6_readAll 203 = .ok (.goto 8, 3) := by decide +kernel
theorem dX6_readAll_206 : decode cX6_readAll 206 = .ok (.aload_n 0, 1) := by decide +kernel
theorem dX6_readAll_207 : decode cX6_readAll 207 = .ok (.invokevirtual 90, 3) := by decide +kernel
theorem dX6_readAll_210 : decode cX6_readAll 210 = .ok (.istore_n 1, 1) := by decide +kernel
theorem dX6_readAll_211 : decode cX6_readAll 211 = .ok (.iload_n 1, 1) := by decide +kernel
theorem dX6_readAll_212 : decode cX6_readAll 212 = .ok (.ifCond .eq 16, 3) := by decide +kernel
theorem dX6_readAll_215 : decode cX6_readAll 215 = .ok (.aload_n 0, 1) := by decide +kernel
theorem dX6_readAll_216 : decode cX6_readAll 216 = .ok (.bipush 59, 2) := by decide +kernel
theorem dX6_readAll_218 : decode cX6_readAll 218 = .ok (.invokevirtual 93, 3) := by decide +kernel
theorem dX6_readAll_221 : decode cX6_readAll 221 = .ok (.ifCond .eq 7, 3) := by decide +kernel
theorem dX6_readAll_224 : decode cX6_readAll 224 = .ok (.iconst 1, 1) := by decide +kernel
theorem dX6_readAll_225 : decode cX6_readAll 225 = .ok (.goto 4, 3) := by decide +kernel
theorem dX6_readAll_228 : decode cX6_readAll 228 = .ok (.iconst 0, 1) := by decide +kernel
theorem dX6_readAll_229 : decode cX6_readAll 229 = .ok (.istore_n 1, 1) := by decide +kernel
theorem dX6_readAll_230 : decode cX6_readAll 230 = .ok (.iinc 2 1, 3) := by decide +kernel
theorem dX6_readAll_233 : decode cX6_readAll 233 = .ok (.goto (-207), 3) := by decide +kernel
theorem dX6_readAll_236 : decode cX6_readAll 236 = .ok (.iload_n 1, 1) := by decide +kernel
theorem dX6_readAll_237 : decode cX6_readAll 237 = .ok (.ireturn, 1) := by decide +kernel
theorem dX8_append_0 : decode cX8_append 0 = .ok (.bipush 24, 2) := by decide +kernel
theorem dX8_append_2 : decode cX8_append 2 = .ok (.istore_n 2, 1) := by decide +kernel
theorem dX8_append_3 : decode cX8_append 3 = .ok (.iload_n 2, 1) := by decide +kernel
theorem dX8_append_4 : decode cX8_append 4 = .ok (.ifCond .lt 42, 3) := by decide +kernel
theorem dX8_append_7 : decode cX8_append 7 = .ok (.aload_n 0, 1) := by decide +kernel
theorem dX8_append_8 : decode cX8_append 8 = .ok (.getfield 26, 3) := by decide +kernel
theorem dX8_append_11 : decode cX8_append 11 = .ok (.sipush 1600, 3) := by decide +kernel
theorem dX8_append_14 : decode cX8_append 14 = .ok (.if_icmp .ge 32, 3) := by decide +kernel
theorem dX8_append_17 : decode cX8_append 17 = .ok (.aload_n 0, 1) := by decide +kernel
theorem dX8_append_18 : decode cX8_append 18 = .ok (.getfield 9, 3) := by decide +kernel
theorem dX8_append_21 : decode cX8_append 21 = .ok (.aload_n 0, 1) := by decide +kernel
theorem dX8_append_22 : decode cX8_append 22 = .ok (.getfield 26, 3) := by decide +kernel
theorem dX8_append_25 : decode cX8_append 25 = .ok (.iload_n 1, 1) := by decide +kernel
theorem dX8_append_26 : decode cX8_append 26 = .ok (.iload_n 2, 1) := by decide +kernel
theorem dX8_append_27 : decode cX8_append 27 = .ok (.ishr, 1) := by decide +kernel
theorem dX8_append_28 : decode cX8_append 28 = .ok (.i2b, 1) := by decide +kernel
theorem dX8_append_29 : decode cX8_append 29 = .ok (.bastore, 1) := by decide +kernel
theorem dX8_append_30 : decode cX8_append 30 = .ok (.aload_n 0, 1) := by decide +kernel
theorem dX8_append_31 : decode cX8_append 31 = .ok (.dup, 1) := by decide +kernel
theorem dX8_append_32 : decode cX8_append 32 = .ok (.getfield 26, 3) := by decide +kernel
theorem dX8_append_35 : decode cX8_append 35 = .ok (.iconst 1, 1) := by decide +kernel
theorem dX8_append_36 : decode cX8_append 36 = .ok (.iadd, 1) := by decide +kernel
theorem dX8_append_37 : decode cX8_append 37 = .ok (.putfield 26, 3) := by decide +kernel
theorem dX8_append_40 : decode cX8_append 40 = .ok (.iinc 2 (-8), 3) := by decide +kernel
theorem dX8_append_43 : decode cX8_append 43 = .ok (.goto (-40), 3) := by decide +kernel
theorem dX8_append_46 : decode cX8_append 46 = .ok (.return_, 1) := by decide +kernel
theorem dX8_isLetter_0 : decode cX8_isLetter 0 = .ok (.iload_n 1, 1) := by decide +kernel
theorem dX8_isLetter_1 : decode cX8_isLetter 1 = .ok (.ifCond .lt 37, 3) := by decide +kernel
theorem dX8_isLetter_4 : decode cX8_isLetter 4 = .ok (.iload_n 1, 1) := by decide +kernel
theorem dX8_isLetter_5 : decode cX8_isLetter 5 = .ok (.aload_n 0, 1) := by decide +kernel
theorem dX8_isLetter_6 : decode cX8_isLetter 6 = .ok (.getfield 26, 3) := by decide +kernel
theorem dX8_isLetter_9 : decode cX8_isLetter 9 = .ok (.if_icmp .ge 29, 3) := by decide +kernel
theorem dX8_isLetter_12 : decode cX8_isLetter 12 = .ok (.aload_n 0, 1) := by decide +kernel
theorem dX8_isLetter_13 : decode cX8_isLetter 13 = .ok (.getfield 9, 3) := by decide +kernel
theorem dX8_isLetter_16 : decode cX8_isLetter 16 = .ok (.iload_n 1, 1) := by decide +kernel
theorem dX8_isLetter_17 : decode cX8_isLetter 17 = .ok (.baload, 1) := by decide +kernel
theorem dX8_isLetter_18 : decode cX8_isLetter 18 = .ok (.bipush 97, 2) := by decide +kernel
theorem dX8_isLetter_20 : decode cX8_isLetter 20 = .ok (.if_icmp .lt 18, 3) := by decide +kernel
theorem dX8_isLetter_23 : decode cX8_isLetter 23 = .ok (.aload_n 0, 1) := by decide +kernel
theorem dX8_isLetter_24 : decode cX8_isLetter 24 = .ok (.getfield 9, 3) := by decide +kernel
theorem dX8_isLetter_27 : decode cX8_isLetter 27 = .ok (.iload_n 1, 1) := by decide +kernel
theorem dX8_isLetter_28 : decode cX8_isLetter 28 = .ok (.baload, 1) := by decide +kernel
theorem dX8_isLetter_29 : decode cX8_isLetter 29 = .ok (.bipush 122, 2) := by decide +kernel
theorem dX8_isLetter_31 : decode cX8_isLetter 31 = .ok (.if_icmp .gt 7, 3) := by decide +kernel
theorem dX8_isLetter_34 : decode cX8_isLetter 34 = .ok (.iconst 1, 1) := by decide +kernel
theorem dX8_isLetter_35 : decode cX8_isLetter 35 = .ok (.goto 4, 3) := by decide +kernel
theorem dX8_isLetter_38 : decode cX8_isLetter 38 = .ok (.iconst 0, 1) := by decide +kernel
theorem dX8_isLetter_39 : decode cX8_isLetter 39 = .ok (.ireturn, 1) := by decide +kernel
theorem dX8_isDigit_0 : decode cX8_isDigit 0 = .ok (.iload_n 1, 1) := by decide +kernel
theorem dX8_isDigit_1 : decode cX8_isDigit 1 = .ok (.ifCond .lt 37, 3) := by decide +kernel
theorem dX8_isDigit_4 : decode cX8_isDigit 4 = .ok (.iload_n 1, 1) := by decide +kernel
theorem dX8_isDigit_5 : decode cX8_isDigit 5 = .ok (.aload_n 0, 1) := by decide +kernel
theorem dX8_isDigit_6 : decode cX8_isDigit 6 = .ok (.getfield 26, 3) := by decide +kernel
theorem dX8_isDigit_9 : decode cX8_isDigit 9 = .ok (.if_icmp .ge 29, 3) := by decide +kernel
theorem dX8_isDigit_12 : decode cX8_isDigit 12 = .ok (.aload_n 0, 1) := by decide +kernel
theorem dX8_isDigit_13 : decode cX8_isDigit 13 = .ok (.getfield 9, 3) := by decide +kernel
theorem dX8_isDigit_16 : decode cX8_isDigit 16 = .ok (.iload_n 1, 1) := by decide +kernel
theorem dX8_isDigit_17 : decode cX8_isDigit 17 = .ok (.baload, 1) := by decide +kernel
theorem dX8_isDigit_18 : decode cX8_isDigit 18 = .ok (.bipush 48, 2) := by decide +kernel
theorem dX8_isDigit_20 : decode cX8_isDigit 20 = .ok (.if_icmp .lt 18, 3) := by decide +kernel
theorem dX8_isDigit_23 : decode cX8_isDigit 23 = .ok (.aload_n 0, 1) := by decide +kernel
theorem dX8_isDigit_24 : decode cX8_isDigit 24 = .ok (.getfield 9, 3) := by decide +kernel
theorem dX8_isDigit_27 : decode cX8_isDigit 27 = .ok (.iload_n 1, 1) := by decide +kernel
theorem dX8_isDigit_28 : decode cX8_isDigit 28 = .ok (.baload, 1) := by decide +kernel
theorem dX8_isDigit_29 : decode cX8_isDigit 29 = .ok (.bipush 57, 2) := by decide +kernel
theorem dX8_isDigit_31 : decode cX8_isDigit 31 = .ok (.if_icmp .gt 7, 3) := by decide +kernel
theorem dX8_isDigit_34 : decode cX8_isDigit 34 = .ok (.iconst 1, 1) := by decide +kernel
theorem dX8_isDigit_35 : decode cX8_isDigit 35 = .ok (.goto 4, 3) := by decide +kernel
theorem dX8_isDigit_38 : decode cX8_isDigit 38 = .ok (.iconst 0, 1) := by decide +kernel
theorem dX8_isDigit_39 : decode cX8_isDigit 39 = .ok (.ireturn, 1) := by decide +kernel
set_option maxRecDepth 100000 in
theorem m_X6_formula (l : Launch) (D : va_G) (cT : Nat → ClassId) (T : Nat → Option Nat) (q : Nat → Int) (hq : qok q) (a0 : Nat) (t0 : T a0 = some 2) (y1 : Int32) (j1 : IV y1 0 4) : th_Met l D cT T (kd q) yX6_formula cX6_formula 2 (some .boolean) (rmk 57 1454) [.ref a0, .int y1] (th_R T (some (.inl (0, 1)))) [2, 56, 57, 58, 59] := by
  refine th_start (by decide) (Nat.le_of_ble_eq_true rfl) ?_
  intro p e s m below meth c ls S hK hH hr hlocks hnm hl
  have hx := S.1
  have hb := S.2.1
  have hl : lv_has ls 2 [(0, .ref a0), (1, .int y1)] := hl
  have J0 : ∀ (H : Heap) (locs : List Loc) (ls : Array Slot), th_H D cT T (kd q) H → va_S (th_A T [2, 56, 57, 58, 59]) s.heap H locs → lv_has ls 2 [(0, .ref a0), (1, .int y1)] → W p l e (rmk 57 1454) s m [.ref a0, .int y1].toArray below meth c H locs 0 0 (MQ below (th_Q D cT T (kd q) (th_R T (some (.inl (0, 1)))) [2, 56, 57, 58, 59]) [.ref a0, .int y1].toArray s 0 0 (th_A T [2, 56, 57, 58, 59])) (F0 m 0 ls []) := by
    intro H locs ls hH hS hl
    refine lv_aload_n hx hb dX6_formula_0 rfl (lv_at hl 0 rfl) ?_
    refine lv_iconst (v := 0) hx hb dX6_formula_1 (by decide) ?_
    refine th_put S hK hH hS ⟨2, by decide, t0⟩ inG6 tyX6 tyX6_ok nmX6 t0 kd_2 rfl 3 (by decide) gm_343 rfl rfl rfl rfl (th_iv (iv_top _)) (fun _ _ => trivial) (ty := .int) (by decide +kernel) rfl rfl dX6_formula_2 (fun H locs hH hS hq1 hp1 => ?_)
    refine lv_aload_n hx hb dX6_formula_5 rfl (lv_at hl 0 rfl) ?_
    refine th_get S hK hH inG6 t0 kd_2 rfl 1 (by decide) gm_340 rfl rfl dX6_formula_6 (fun v1 hv1 fv1 => ?_)
    obtain ⟨rf2, rfl, trf2⟩ := th_V.ref hv1
    refine th_get S hK hH inG4 trf2 kd_46 rfl 9 (by decide) gm_269 rfl rfl dX6_formula_9 (fun v3 hv3 fv3 => ?_)
    obtain ⟨rf4, rfl, trf4⟩ := th_V.ref hv3
    refine lv_iload_n hx hb dX6_formula_12 rfl (lv_at hl 1 rfl) ?_
    refine th_callVv (n := 1) (As := [.int y1]) S hK hH hS (th_A.sub (by decide)) (m_X2_open l D cT T q hq rf4 trf4 (y1) (iv_top _)) gm_758 gm_755 gm_756 gm_757 gm_117 (by decide +kernel) ⟨rfl, rfl, Nat.le_of_ble_eq_true rfl, Nat.le_of_ble_eq_true rfl⟩ trf4 kd_56 rfl rfl hl.1 rfl (Nat.le_of_ble_eq_true rfl) dX6_formula_13 ⟨Nat.zero_le _, Nat.zero_le _⟩ (fun H locs hH hS hF1 => ?_)
    have f5 := fv1.kept (hF1 _ fv1.lt (th_off t0 (by decide)))
    have f6 := fv3.kept (hF1 _ fv3.lt (th_off trf2 (by decide)))
    refine lv_aload_n hx hb dX6_formula_16 rfl (lv_at hl 0 rfl) ?_
    refine lv_iconst (v := 0) hx hb dX6_formula_17 (by decide) ?_
    refine lv_iconst (v := 0) hx hb dX6_formula_18 (by decide) ?_
    refine th_callVi (n := 2) (As := [.int 0, .int 0]) S hK hH hS (th_A.sub (by decide)) (m_X6_climb_d0l0 l D cT T q hq a0 t0 (0) (iv_w (iv_c (by decide) : IV 0 0 0) (by decide)) (0) (iv_c (by decide) : IV 0 0 0)) gm_762 gm_759 gm_761 gm_15 gm_115 (by decide +kernel) ⟨rfl, rfl, Nat.le_of_ble_eq_true rfl, Nat.le_of_ble_eq_true rfl⟩ t0 kd_2 rfl rfl hl.1 rfl (Nat.le_of_ble_eq_true rfl) dX6_formula_19 ⟨Nat.zero_le _, Nat.zero_le _⟩ (fun x7 H locs ix7 hH hS hF1 => ?_)
    have f8 := f6.kept (hF1 _ f6.lt (th_off trf2 (by decide)))
    refine lv_if_ne (tgt := 27) hx hb dX6_formula_22 (by decide) (fun c9 => ?_) (fun c9 => ?_)
    · skip
      have ir10 : IV x7 1 1 := iv_cutL ix7 (iv_c (by decide) : IV 0 0 0) c9 (by decide)
      refine lv_aload_n hx hb dX6_formula_27 rfl (lv_at hl 0 rfl) ?_
      refine th_get S hK hH inG6 t0 kd_2 rfl 1 (by decide) gm_340 rfl rfl dX6_formula_28 (fun v11 hv11 fv11 => ?_)
      obtain ⟨rf12, rfl, trf12⟩ := th_V.ref hv11
      refine th_get S hK hH inG4 trf12 kd_46 rfl 9 (by decide) gm_269 rfl rfl dX6_formula_31 (fun v13 hv13 fv13 => ?_)
      obtain ⟨rf14, rfl, trf14⟩ := th_V.ref hv13
      refine lv_iload_n hx hb dX6_formula_34 rfl (lv_at hl 1 rfl) ?_
      refine th_callVv (n := 1) (As := [.int y1]) S hK hH hS (th_A.sub (by decide)) (m_X2_close l D cT T q hq rf14 trf14 (y1) (iv_top _)) gm_777 gm_774 gm_775 gm_776 gm_117 (by decide +kernel) ⟨rfl, rfl, Nat.le_of_ble_eq_true rfl, Nat.le_of_ble_eq_true rfl⟩ trf14 kd_56 rfl rfl hl.1 rfl (Nat.le_of_ble_eq_true rfl) dX6_formula_35 ⟨Nat.zero_le _, Nat.zero_le _⟩ (fun H locs hH hS hF1 => ?_)
      have f15 := f8.kept (hF1 _ f8.lt (th_off trf2 (by decide)))
      have f16 := fv11.kept (hF1 _ fv11.lt (th_off t0 (by decide)))
      have f17 := fv13.kept (hF1 _ fv13.lt (th_off trf12 (by decide)))
      refine lv_iconst (v := 1) hx hb dX6_formula_38 (by decide) ?_
      exact th_zret S hK hH hS hr hlocks (iv_w (iv_c (by decide) : IV 1 1 1) (by decide)) (th_R.i (iv_w (iv_c (by decide) : IV 1 1 1) (by decide))) dX6_formula_39
    · skip
      have ir18 : IV x7 0 0 := iv_eL c9 (iv_c (by decide) : IV 0 0 0)
      refine lv_iconst (v := 0) hx hb dX6_formula_25 (by decide) ?_
      exact th_zret S hK hH hS hr hlocks (iv_w (iv_c (by decide) : IV 0 0 0) (by decide)) (th_R.i (iv_w (iv_c (by decide) : IV 0 0 0) (by decide))) dX6_formula_26
  exact J0 s.heap [] ls hH va_S.rf hl

set_option maxRecDepth 100000 in
theorem m_X6_mapLine (l : Launch) (D : va_G) (cT : Nat → ClassId) (T : Nat → Option Nat) (q : Nat → Int) (hT : tok T) (hqr : qokr q) (hp0 : q 4 ≤ 3) (a0 : Nat) (t0 : T a0 = some 2) : th_MetX l D cT T q yX6_mapLine cX6_mapLine 4 (some .boolean) (rmk 58 1475) [.ref a0] (th_R T (some (.inl (0, 1)))) [2, 29, 46, 48, 50, 56, 57, 58, 59] := by
  refine th_startX (by decide) (Nat.le_of_ble_eq_true rfl) ?_
  have hq := hqr.1
  intro p e s m below meth c ls S hK hH hr hlocks hnm hl
  have hx := S.1
  have hb := S.2.1
  have hl : lv_has ls 4 [(0, .ref a0)] := hl
  have J141 : ∀ (H : Heap) (locs : List Loc) (ls : Array Slot) (v141_1 : Int32) (v141_2 : Int32) (v141_3 : Int32), IV v141_1 0 3 → IV v141_2 0 2147483647 → IV v141_3 0 2147483647 → th_H D cT T (kd q) H → va_S (th_A T [2, 29, 46, 48, 50, 56, 57, 58, 59]) s.heap H locs → lv_has ls 4 [(0, .ref a0), (1, .int v141_1), (2, .int v141_2), (3, .int v141_3)] → W p l e (rmk 58 1475) s m [.ref a0].toArray below meth c H locs 0 0 (MQ below (th_QX D cT T q (th_R T (some (.inl (0, 1)))) [2, 29, 46, 48, 50, 56, 57, 58, 59]) [.ref a0].toArray s 0 0 (th_A T [2, 29, 46, 48, 50, 56, 57, 58, 59])) (F0 m 141 ls []) := by
    intro H locs ls v141_1 v141_2 v141_3 iv141_1 iv141_2 iv141_3 hH hS hl
    refine lv_aload_n hx hb dX6_mapLine_141 rfl (lv_at hl 0 rfl) ?_
    refine th_get S hK hH inG6 t0 kd_2 rfl 1 (by decide) gm_340 rfl rfl dX6_mapLine_142 (fun v1 hv1 fv1 => ?_)
    obtain ⟨rf2, rfl, trf2⟩ := th_V.ref hv1
    refine th_get S hK hH inG4 trf2 kd_46 rfl 3 (by decide) gm_242 rfl rfl dX6_mapLine_145 (fun v3 hv3 fv3 => ?_)
    obtain ⟨rf4, rfl, trf4⟩ := th_V.ref hv3
    refine lv_iload_n hx hb dX6_mapLine_148 rfl (lv_at hl 1 rfl) ?_
    refine lv_iload_n hx hb dX6_mapLine_149 rfl (lv_at hl 2 rfl) ?_
    refine th_iast S hK hH hS ⟨50, by decide, trf4⟩ trf4 kd_50 (th_in (hi := 3) iv141_1 (by decide)) (th_iv (iv_top _)) dX6_mapLine_150 (fun H locs hH hS hq1 => ?_)
    have f5 := fv1.kept (hq1 _ (th_ne t0 trf4 (by decide)))
    refine lv_aload_n hx hb dX6_mapLine_151 rfl (lv_at hl 0 rfl) ?_
    refine th_getK S hK f5 inG6 rfl (by decide) gm_340 rfl dX6_mapLine_152 ?_
    refine th_get S hK hH inG4 trf2 kd_46 rfl 10 (by decide) gm_272 rfl rfl dX6_mapLine_155 (fun v7 hv7 fv7 => ?_)
    obtain ⟨rf8, rfl, trf8⟩ := th_V.ref hv7
    refine th_get S hK hH inG7 trf8 kd_10 rfl 0 (by decide) gm_229 rfl rfl dX6_mapLine_158 (fun v9 hv9 fv9 => ?_)
    obtain ⟨rf10, rfl, trf10⟩ := th_V.ref hv9
    refine lv_bipush (v := 35) hx hb dX6_mapLine_161 (by decide) ?_
    refine lv_iload_n hx hb dX6_mapLine_163 rfl (lv_at hl 1 rfl) ?_
    refine lv_iadd hx hb dX6_mapLine_164 ?_
    refine lv_topi (fun x11 ex11 => ?_)
    have ix11 : IV x11 35 38 := by rw [ex11]; exact iv_add (iv_c (by decide) : IV 35 35 35) iv141_1 (by decide)
    refine lv_iload_n hx hb dX6_mapLine_165 rfl (lv_at hl 3 rfl) ?_
    refine th_iast S hK hH hS ⟨29, by decide, trf10⟩ trf10 kd_29 (th_in (hi := 38) (iv_w ix11 (by decide)) (by decide)) (th_iv (iv_top _)) dX6_mapLine_166 (fun H locs hH hS hq1 => ?_)
    have f12 := f5.kept (hq1 _ (th_ne t0 trf10 (by decide)))
    have f13 := fv7.kept (hq1 _ (th_ne trf2 trf10 (by decide)))
    have f14 := fv9.kept (hq1 _ (th_ne trf8 trf10 (by decide)))
    refine lv_aload_n hx hb dX6_mapLine_167 rfl (lv_at hl 0 rfl) ?_
    refine th_getK S hK f12 inG6 rfl (by decide) gm_340 rfl dX6_mapLine_168 ?_
    refine lv_dup hx hb dX6_mapLine_171 rfl ?_
    refine th_get S hK hH inG4 trf2 kd_46 rfl 12 (by decide) gm_280 rfl rfl dX6_mapLine_172 (fun v16 hv16 fv16 => ?_)
    obtain ⟨x17, rfl, ix17⟩ := th_V.int hv16
    have kx17 : IV x17 (q 4) (q 4) := ix17
    have kx17a := kx17.1
    have kx17b := kx17.2
    have ix17 : IV x17 0 3 := iv_w ix17 ⟨(qok_4 hq).1, hp0⟩
    refine lv_iconst (v := 1) hx hb dX6_mapLine_175 (by decide) ?_
    refine lv_iadd hx hb dX6_mapLine_176 ?_
    refine lv_topi (fun x18 ex18 => ?_)
    have ix18 : IV x18 1 4 := by rw [ex18]; exact iv_add ix17 (iv_c (by decide) : IV 1 1 1) (by decide)
    have ux18 : x18.toInt = x17.toInt + 1 := by rw [ex18]; have z1 := (ix17).1; have z2 := (ix17).2; have z3 : (1 : Int32).toInt = 1 := rfl; have z4 := iv_addE (x := x17) (y := 1) (by omega); omega
    obtain ⟨n19, en19⟩ : ∃ z : Int, z = Int32.toInt x18 := ⟨_, rfl⟩
    have hzq20 : qok (qup q 4 n19) := qup_ok4 hq (iv_z en19 (iv_w ix18 (by decide)))
    refine th_putX (Ks2 := kd (qup q 4 n19)) S hK hH hS ⟨46, by decide, trf2⟩ inG4 tyX4 tyX4_ok nmX4 trf2 (fun b hb => hT 46 (by decide) _ _ hb trf2) kd_46 kd_46 (kd_up4 _ _) rfl 12 (by decide) gm_280 rfl rfl rfl rfl (fun i hi => match i, hi with | 0, _ => rfl | 1, _ => rfl | 2, _ => rfl | 3, _ => rfl | 4, _ => rfl | 5, _ => rfl | 6, _ => rfl | 7, _ => rfl | 8, _ => rfl | 9, _ => rfl | 10, _ => rfl | 11, _ => rfl | 12, h => absurd rfl h | 13, _ => rfl | 14, _ => rfl | 15, _ => rfl | 16, _ => rfl | 17, _ => rfl | 18, _ => rfl | _ + 19, _ => rfl) (Nat.le_of_ble_eq_true rfl) (th_selfE en19) (ty := .int) (by decide +kernel) rfl rfl dX6_mapLine_177 (fun H locs hH hS hq1 => ?_)
    have f21 := f12.kept (hq1 _ (th_ne t0 trf2 (by decide)))
    have f22 := f14.kept (hq1 _ (th_ne trf8 trf2 (by decide)))
    refine lv_iconst (v := 1) hx hb dX6_mapLine_180 (by decide) ?_
    exact th_zretX S hK hH hS hr hlocks ⟨hzq20, by have w1 := qok_1 hzq20; have w2 := qok_2 hzq20; have w3 := qok_1 hq; have w4 := qok_2 hq; have w5 := hqr.2; simp [qup] at w1 w2 ⊢; omega⟩ rfl (iv_w (iv_c (by decide) : IV 1 1 1) (by decide)) (th_R.i (iv_w (iv_c (by decide) : IV 1 1 1) (by decide))) dX6_mapLine_181
  have J102 : ∀ (H : Heap) (locs : List Loc) (ls : Array Slot) (v102_1 : Int32) (v102_2 : Int32) (v102_3 : Int32), IV v102_1 0 3 → IV v102_2 0 2147483647 → IV v102_3 0 2147483647 → th_H D cT T (kd q) H → va_S (th_A T [2, 29, 46, 48, 50, 56, 57, 58, 59]) s.heap H locs → lv_has ls 4 [(0, .ref a0), (1, .int v102_1), (2, .int v102_2), (3, .int v102_3)] → W p l e (rmk 58 1475) s m [.ref a0].toArray below meth c H locs 0 0 (MQ below (th_QX D cT T q (th_R T (some (.inl (0, 1)))) [2, 29, 46, 48, 50, 56, 57, 58, 59]) [.ref a0].toArray s 0 0 (th_A T [2, 29, 46, 48, 50, 56, 57, 58, 59])) (F0 m 102 ls []) := by
    intro H locs ls v102_1 v102_2 v102_3 iv102_1 iv102_2 iv102_3 hH hS hl
    refine lv_aload_n hx hb dX6_mapLine_102 rfl (lv_at hl 0 rfl) ?_
    refine th_callVi (n := 0) (As := []) S hK hH hS (th_A.sub (by decide)) (m_X6_kind l D cT T q hq a0 t0) gm_708 gm_705 gm_707 gm_5 gm_115 (by decide +kernel) ⟨rfl, rfl, Nat.le_of_ble_eq_true rfl, Nat.le_of_ble_eq_true rfl⟩ t0 kd_2 rfl rfl hl.1 rfl (Nat.le_of_ble_eq_true rfl) dX6_mapLine_103 ⟨Nat.zero_le _, Nat.zero_le _⟩ (fun x23 H locs ix23 hH hS hF1 => ?_)
    refine lv_sipush (v := 145) hx hb dX6_mapLine_106 (by decide) ?_
    refine lv_icmp_ne (tgt := 141) hx hb dX6_mapLine_109 (by decide) (fun c24 => ?_) (fun c24 => ?_)
    · skip
      exact J141 H locs ls v102_1 v102_2 v102_3 iv102_1 iv102_2 iv102_3 hH hS (lv_sub hl [0, 1, 2, 3] rfl)
    · skip
      have ir25 : IV x23 145 145 := iv_eL c24 (iv_c (by decide) : IV 145 145 145)
      have ir25a := ir25.1
      have ir25b := ir25.2
      refine lv_aload_n hx hb dX6_mapLine_112 rfl (lv_at hl 0 rfl) ?_
      refine lv_dup hx hb dX6_mapLine_113 rfl ?_
      refine th_get S hK hH inG6 t0 kd_2 rfl 2 (by decide) gm_342 rfl rfl dX6_mapLine_114 (fun v26 hv26 fv26 => ?_)
      obtain ⟨x27, rfl, ix27⟩ := th_V.int hv26
      refine lv_iconst (v := 1) hx hb dX6_mapLine_117 (by decide) ?_
      refine lv_iadd hx hb dX6_mapLine_118 ?_
      refine lv_topi (fun x28 ex28 => ?_)
      have ix28 := iv_top x28
      refine th_put S hK hH hS ⟨2, by decide, t0⟩ inG6 tyX6 tyX6_ok nmX6 t0 kd_2 rfl 2 (by decide) gm_342 rfl rfl rfl rfl (th_iv ix28) (fun _ _ => trivial) (ty := .int) (by decide +kernel) rfl rfl dX6_mapLine_119 (fun H locs hH hS hq1 hp1 => ?_)
      have f29 := hp1.1
      refine lv_aload_n hx hb dX6_mapLine_122 rfl (lv_at hl 0 rfl) ?_
      refine th_get S hK hH inG6 t0 kd_2 rfl 1 (by decide) gm_340 rfl rfl dX6_mapLine_123 (fun v30 hv30 fv30 => ?_)
      obtain ⟨rf31, rfl, trf31⟩ := th_V.ref hv30
      refine th_get S hK hH inG4 trf31 kd_46 rfl 10 (by decide) gm_272 rfl rfl dX6_mapLine_126 (fun v32 hv32 fv32 => ?_)
      obtain ⟨rf33, rfl, trf33⟩ := th_V.ref hv32
      refine th_get S hK hH inG7 trf33 kd_10 rfl 0 (by decide) gm_229 rfl rfl dX6_mapLine_129 (fun v34 hv34 fv34 => ?_)
      obtain ⟨rf35, rfl, trf35⟩ := th_V.ref hv34
      refine lv_bipush (v := 39) hx hb dX6_mapLine_132 (by decide) ?_
      refine lv_dup2_11 hx hb dX6_mapLine_134 rfl rfl ?_
      refine th_iald S hK hH trf35 kd_29 (th_in (hi := 39) (iv_w (iv_c (by decide) : IV 39 39 39) (by decide)) (by decide)) dX6_mapLine_135 (fun v36 hv36 => ?_)
      obtain ⟨x37, rfl, ix37⟩ := th_V.int hv36
      refine lv_iconst (v := 1) hx hb dX6_mapLine_136 (by decide) ?_
      refine lv_iload_n hx hb dX6_mapLine_137 rfl (lv_at hl 1 rfl) ?_
      refine lv_ishl hx hb dX6_mapLine_138 ?_
      refine lv_topi (fun x38 ex38 => ?_)
      have ix38 := iv_top x38
      refine lv_ior hx hb dX6_mapLine_139 ?_
      refine lv_topi (fun x39 ex39 => ?_)
      have ix39 := iv_top x39
      refine th_iast S hK hH hS ⟨29, by decide, trf35⟩ trf35 kd_29 (th_in (hi := 39) (iv_w (iv_c (by decide) : IV 39 39 39) (by decide)) (by decide)) (th_iv ix39) dX6_mapLine_140 (fun H locs hH hS hq1 => ?_)
      have f40 := f29.kept (hq1 _ (th_ne t0 trf35 (by decide)))
      have f41 := fv30.kept (hq1 _ (th_ne t0 trf35 (by decide)))
      have f42 := fv32.kept (hq1 _ (th_ne trf31 trf35 (by decide)))
      have f43 := fv34.kept (hq1 _ (th_ne trf33 trf35 (by decide)))
      exact J141 H locs ls v102_1 v102_2 v102_3 iv102_1 iv102_2 iv102_3 hH hS (lv_sub hl [0, 1, 2, 3] rfl)
  have J65 : ∀ (H : Heap) (locs : List Loc) (ls : Array Slot), th_H D cT T (kd q) H → va_S (th_A T [2, 29, 46, 48, 50, 56, 57, 58, 59]) s.heap H locs → lv_has ls 4 [] → W p l e (rmk 58 1475) s m [.ref a0].toArray below meth c H locs 0 0 (MQ below (th_QX D cT T q (th_R T (some (.inl (0, 1)))) [2, 29, 46, 48, 50, 56, 57, 58, 59]) [.ref a0].toArray s 0 0 (th_A T [2, 29, 46, 48, 50, 56, 57, 58, 59])) (F0 m 65 ls []) := by
    intro H locs ls hH hS hl
    refine lv_iconst (v := 0) hx hb dX6_mapLine_65 (by decide) ?_
    exact th_zretX S hK hH hS hr hlocks hqr rfl (iv_w (iv_c (by decide) : IV 0 0 0) (by decide)) (th_R.i (iv_w (iv_c (by decide) : IV 0 0 0) (by decide))) dX6_mapLine_66
  have J33 : ∀ (H : Heap) (locs : List Loc) (ls : Array Slot), th_H D cT T (kd q) H → va_S (th_A T [2, 29, 46, 48, 50, 56, 57, 58, 59]) s.heap H locs → lv_has ls 4 [] → W p l e (rmk 58 1475) s m [.ref a0].toArray below meth c H locs 0 0 (MQ below (th_QX D cT T q (th_R T (some (.inl (0, 1)))) [2, 29, 46, 48, 50, 56, 57, 58, 59]) [.ref a0].toArray s 0 0 (th_A T [2, 29, 46, 48, 50, 56, 57, 58, 59])) (F0 m 33 ls []) := by
    intro H locs ls hH hS hl
    refine lv_iconst (v := 0) hx hb dX6_mapLine_33 (by decide) ?_
    exact th_zretX S hK hH hS hr hlocks hqr rfl (iv_w (iv_c (by decide) : IV 0 0 0) (by decide)) (th_R.i (iv_w (iv_c (by decide) : IV 0 0 0) (by decide))) dX6_mapLine_34
  have J0 : ∀ (H : Heap) (locs : List Loc) (ls : Array Slot), th_H D cT T (kd q) H → va_S (th_A T [2, 29, 46, 48, 50, 56, 57, 58, 59]) s.heap H locs → lv_has ls 4 [(0, .ref a0)] → W p l e (rmk 58 1475) s m [.ref a0].toArray below meth c H locs 0 0 (MQ below (th_QX D cT T q (th_R T (some (.inl (0, 1)))) [2, 29, 46, 48, 50, 56, 57, 58, 59]) [.ref a0].toArray s 0 0 (th_A T [2, 29, 46, 48, 50, 56, 57, 58, 59])) (F0 m 0 ls []) := by
    intro H locs ls hH hS hl
    refine lv_aload_n hx hb dX6_mapLine_0 rfl (lv_at hl 0 rfl) ?_
    refine th_get S hK hH inG6 t0 kd_2 rfl 1 (by decide) gm_340 rfl rfl dX6_mapLine_1 (fun v44 hv44 fv44 => ?_)
    obtain ⟨rf45, rfl, trf45⟩ := th_V.ref hv44
    refine th_get S hK hH inG4 trf45 kd_46 rfl 12 (by decide) gm_280 rfl rfl dX6_mapLine_4 (fun v46 hv46 fv46 => ?_)
    obtain ⟨x47, rfl, ix47⟩ := th_V.int hv46
    have kx47 : IV x47 (q 4) (q 4) := ix47
    have kx47a := kx47.1
    have kx47b := kx47.2
    have ix47 : IV x47 0 3 := iv_w ix47 ⟨(qok_4 hq).1, hp0⟩
    refine lv_istore_n (lv' := [(1, .int x47), (0, .ref a0)]) hx hb dX6_mapLine_7 rfl hl (by decide) rfl (fun ls hl => ?_)
    refine lv_aload_n hx hb dX6_mapLine_8 rfl (lv_at hl 1 rfl) ?_
    refine lv_aload_n hx hb dX6_mapLine_9 rfl (lv_at hl 1 rfl) ?_
    refine th_getK S hK fv44 inG6 rfl (by decide) gm_340 rfl dX6_mapLine_10 ?_
    refine th_get S hK hH inG4 trf45 kd_46 rfl 1 (by decide) gm_238 rfl rfl dX6_mapLine_13 (fun v49 hv49 fv49 => ?_)
    obtain ⟨rf50, rfl, trf50⟩ := th_V.ref hv49
    refine lv_iload_n hx hb dX6_mapLine_16 rfl (lv_at hl 0 rfl) ?_
    refine th_callVi (n := 2) (As := [.ref rf50, .int x47]) S hK hH hS (th_A.sub (by decide)) (m_X6_newName_v1 l D cT T q hq a0 t0 rf50 trf50 (x47) (iv_w ix47 (by decide))) gm_730 gm_727 gm_729 gm_8 gm_115 (by decide +kernel) ⟨rfl, rfl, Nat.le_of_ble_eq_true rfl, Nat.le_of_ble_eq_true rfl⟩ t0 kd_2 rfl rfl hl.1 rfl (Nat.le_of_ble_eq_true rfl) dX6_mapLine_17 ⟨Nat.zero_le _, Nat.zero_le _⟩ (fun x51 H locs ix51 hH hS hF1 => ?_)
    have f52 := fv46.kept (hF1 _ fv46.lt (th_off trf45 (by decide)))
    refine lv_if_eq (tgt := 33) hx hb dX6_mapLine_20 (by decide) (fun c53 => ?_) (fun c53 => ?_)
    · skip
      have ir54 : IV x51 0 0 := iv_eL c53 (iv_c (by decide) : IV 0 0 0)
      have ir54a := ir54.1
      have ir54b := ir54.2
      exact J33 H locs ls  hH hS (lv_sub hl [] rfl)
    · skip
      have ir55 : IV x51 1 1 := iv_cutL ix51 (iv_c (by decide) : IV 0 0 0) c53 (by decide)
      have ir55a := ir55.1
      have ir55b := ir55.2
      refine lv_aload_n hx hb dX6_mapLine_23 rfl (lv_at hl 1 rfl) ?_
      refine lv_sipush (v := 136) hx hb dX6_mapLine_24 (by decide) ?_
      refine th_callVi (n := 1) (As := [.int 136]) S hK hH hS (th_A.sub (by decide)) (m_X6_take l D cT T q hq a0 t0 (136) (iv_top _)) gm_750 gm_747 gm_749 gm_13 gm_115 (by decide +kernel) ⟨rfl, rfl, Nat.le_of_ble_eq_true rfl, Nat.le_of_ble_eq_true rfl⟩ t0 kd_2 rfl rfl hl.1 rfl (Nat.le_of_ble_eq_true rfl) dX6_mapLine_27 ⟨Nat.zero_le _, Nat.zero_le _⟩ (fun x56 H locs ix56 hH hS hF1 => ?_)
      have f57 := f52.kept (hF1 _ f52.lt (th_off trf45 (by decide)))
      refine lv_if_ne (tgt := 35) hx hb dX6_mapLine_30 (by decide) (fun c58 => ?_) (fun c58 => ?_)
      · skip
        have ir59 : IV x56 1 1 := iv_cutL ix56 (iv_c (by decide) : IV 0 0 0) c58 (by decide)
        have ir59a := ir59.1
        have ir59b := ir59.2
        refine lv_aload_n hx hb dX6_mapLine_35 rfl (lv_at hl 1 rfl) ?_
        refine lv_iconst (v := 1) hx hb dX6_mapLine_36 (by decide) ?_
        refine lv_bipush (v := 9) hx hb dX6_mapLine_37 (by decide) ?_
        refine th_callVi (n := 2) (As := [.int 1, .int 9]) S hK hH hS (th_A.sub (by decide)) (m_X6_number l D cT T q hq a0 t0 (1) (iv_top _) (9) (iv_top _)) gm_742 gm_739 gm_741 gm_11 gm_115 (by decide +kernel) ⟨rfl, rfl, Nat.le_of_ble_eq_true rfl, Nat.le_of_ble_eq_true rfl⟩ t0 kd_2 rfl rfl hl.1 rfl (Nat.le_of_ble_eq_true rfl) dX6_mapLine_39 ⟨Nat.zero_le _, Nat.zero_le _⟩ (fun x60 H locs ix60 hH hS hF1 => ?_)
        have f61 := f57.kept (hF1 _ f57.lt (th_off trf45 (by decide)))
        refine lv_istore_n (lv' := [(2, .int x60), (1, .int x47), (0, .ref a0)]) hx hb dX6_mapLine_42 rfl hl (by decide) rfl (fun ls hl => ?_)
        refine lv_iload_n hx hb dX6_mapLine_43 rfl (lv_at hl 0 rfl) ?_
        refine lv_if_lt (tgt := 65) hx hb dX6_mapLine_44 (by decide) (fun c62 => ?_) (fun c62 => ?_)
        · skip
          have ir63 : IV x60 (-2147483648) (-1) := iv_uL ix60 (iv_c (by decide) : IV 0 0 0) (iv_lt c62) (by decide)
          have ir63a := ir63.1
          have ir63b := ir63.2
          exact J65 H locs ls  hH hS (lv_sub hl [] rfl)
        · skip
          have ir64 : IV x60 0 2147483647 := iv_vR (iv_c (by decide) : IV 0 0 0) ix60 (iv_nlt c62) (by decide)
          have ir64a := ir64.1
          have ir64b := ir64.2
          refine lv_aload_n hx hb dX6_mapLine_47 rfl (lv_at hl 2 rfl) ?_
          refine lv_sipush (v := 143) hx hb dX6_mapLine_48 (by decide) ?_
          refine th_callVi (n := 1) (As := [.int 143]) S hK hH hS (th_A.sub (by decide)) (m_X6_take l D cT T q hq a0 t0 (143) (iv_top _)) gm_750 gm_747 gm_749 gm_13 gm_115 (by decide +kernel) ⟨rfl, rfl, Nat.le_of_ble_eq_true rfl, Nat.le_of_ble_eq_true rfl⟩ t0 kd_2 rfl rfl hl.1 rfl (Nat.le_of_ble_eq_true rfl) dX6_mapLine_51 ⟨Nat.zero_le _, Nat.zero_le _⟩ (fun x65 H locs ix65 hH hS hF1 => ?_)
          have f66 := f61.kept (hF1 _ f61.lt (th_off trf45 (by decide)))
          refine lv_if_eq (tgt := 65) hx hb dX6_mapLine_54 (by decide) (fun c67 => ?_) (fun c67 => ?_)
          · skip
            have ir68 : IV x65 0 0 := iv_eL c67 (iv_c (by decide) : IV 0 0 0)
            have ir68a := ir68.1
            have ir68b := ir68.2
            exact J65 H locs ls  hH hS (lv_sub hl [] rfl)
          · skip
            have ir69 : IV x65 1 1 := iv_cutL ix65 (iv_c (by decide) : IV 0 0 0) c67 (by decide)
            have ir69a := ir69.1
            have ir69b := ir69.2
            refine lv_aload_n hx hb dX6_mapLine_57 rfl (lv_at hl 2 rfl) ?_
            refine lv_iload_n hx hb dX6_mapLine_58 rfl (lv_at hl 1 rfl) ?_
            refine th_callVi (n := 1) (As := [.int x47]) S hK hH hS (th_A.sub (by decide)) (m_X6_formula l D cT T q hq a0 t0 (x47) (iv_w ix47 (by decide))) gm_754 gm_751 gm_753 gm_14 gm_115 (by decide +kernel) ⟨rfl, rfl, Nat.le_of_ble_eq_true rfl, Nat.le_of_ble_eq_true rfl⟩ t0 kd_2 rfl rfl hl.1 rfl (Nat.le_of_ble_eq_true rfl) dX6_mapLine_59 ⟨Nat.zero_le _, Nat.zero_le _⟩ (fun x70 H locs ix70 hH hS hF1 => ?_)
            have f71 := f66.kept (hF1 _ f66.lt (th_off trf45 (by decide)))
            refine lv_if_ne (tgt := 67) hx hb dX6_mapLine_62 (by decide) (fun c72 => ?_) (fun c72 => ?_)
            · skip
              have ir73 : IV x70 1 1 := iv_cutL ix70 (iv_c (by decide) : IV 0 0 0) c72 (by decide)
              have ir73a := ir73.1
              have ir73b := ir73.2
              refine lv_iconst (v := 0) hx hb dX6_mapLine_67 (by decide) ?_
              refine lv_istore_n (lv' := [(3, .int 0), (2, .int x60), (1, .int x47), (0, .ref a0)]) hx hb dX6_mapLine_68 rfl hl (by decide) rfl (fun ls hl => ?_)
              refine lv_aload_n hx hb dX6_mapLine_69 rfl (lv_at hl 3 rfl) ?_
              refine th_callVi (n := 0) (As := []) S hK hH hS (th_A.sub (by decide)) (m_X6_kind l D cT T q hq a0 t0) gm_708 gm_705 gm_707 gm_5 gm_115 (by decide +kernel) ⟨rfl, rfl, Nat.le_of_ble_eq_true rfl, Nat.le_of_ble_eq_true rfl⟩ t0 kd_2 rfl rfl hl.1 rfl (Nat.le_of_ble_eq_true rfl) dX6_mapLine_70 ⟨Nat.zero_le _, Nat.zero_le _⟩ (fun x74 H locs ix74 hH hS hF1 => ?_)
              have f75 := f71.kept (hF1 _ f71.lt (th_off trf45 (by decide)))
              refine lv_sipush (v := 144) hx hb dX6_mapLine_73 (by decide) ?_
              refine lv_icmp_ne (tgt := 102) hx hb dX6_mapLine_76 (by decide) (fun c76 => ?_) (fun c76 => ?_)
              · skip
                exact J102 H locs ls x47 x60 0 ix47 ir64 (iv_w (iv_c (by decide) : IV 0 0 0) (by decide)) hH hS (lv_sub hl [3, 2, 1, 0] rfl)
              · skip
                have ir77 : IV x74 144 144 := iv_eL c76 (iv_c (by decide) : IV 144 144 144)
                have ir77a := ir77.1
                have ir77b := ir77.2
                refine lv_aload_n hx hb dX6_mapLine_79 rfl (lv_at hl 3 rfl) ?_
                refine lv_dup hx hb dX6_mapLine_80 rfl ?_
                refine th_get S hK hH inG6 t0 kd_2 rfl 2 (by decide) gm_342 rfl rfl dX6_mapLine_81 (fun v78 hv78 fv78 => ?_)
                obtain ⟨x79, rfl, ix79⟩ := th_V.int hv78
                refine lv_iconst (v := 1) hx hb dX6_mapLine_84 (by decide) ?_
                refine lv_iadd hx hb dX6_mapLine_85 ?_
                refine lv_topi (fun x80 ex80 => ?_)
                have ix80 := iv_top x80
                refine th_put S hK hH hS ⟨2, by decide, t0⟩ inG6 tyX6 tyX6_ok nmX6 t0 kd_2 rfl 2 (by decide) gm_342 rfl rfl rfl rfl (th_iv ix80) (fun _ _ => trivial) (ty := .int) (by decide +kernel) rfl rfl dX6_mapLine_86 (fun H locs hH hS hq1 hp1 => ?_)
                have f81 := f75.kept (hq1 _ (th_ne trf45 t0 (by decide)))
                have f82 := hp1.1
                refine lv_aload_n hx hb dX6_mapLine_89 rfl (lv_at hl 3 rfl) ?_
                refine lv_iconst (v := 0) hx hb dX6_mapLine_90 (by decide) ?_
                refine lv_iconst (v := 3) hx hb dX6_mapLine_91 (by decide) ?_
                refine th_callVi (n := 2) (As := [.int 0, .int 3]) S hK hH hS (th_A.sub (by decide)) (m_X6_number l D cT T q hq a0 t0 (0) (iv_top _) (3) (iv_top _)) gm_742 gm_739 gm_741 gm_11 gm_115 (by decide +kernel) ⟨rfl, rfl, Nat.le_of_ble_eq_true rfl, Nat.le_of_ble_eq_true rfl⟩ t0 kd_2 rfl rfl hl.1 rfl (Nat.le_of_ble_eq_true rfl) dX6_mapLine_92 ⟨Nat.zero_le _, Nat.zero_le _⟩ (fun x83 H locs ix83 hH hS hF1 => ?_)
                have f84 := f81.kept (hF1 _ f81.lt (th_off trf45 (by decide)))
                refine lv_istore_n (lv' := [(3, .int x83), (2, .int x60), (1, .int x47), (0, .ref a0)]) hx hb dX6_mapLine_95 rfl hl (by decide) rfl (fun ls hl => ?_)
                refine lv_iload_n hx hb dX6_mapLine_96 rfl (lv_at hl 0 rfl) ?_
                refine lv_if_ge (tgt := 102) hx hb dX6_mapLine_97 (by decide) (fun c85 => ?_) (fun c85 => ?_)
                · skip
                  have ir86 : IV x83 0 2147483647 := iv_vR (iv_c (by decide) : IV 0 0 0) ix83 (iv_le c85) (by decide)
                  have ir86a := ir86.1
                  have ir86b := ir86.2
                  exact J102 H locs ls x47 x60 x83 ix47 ir64 ir86 hH hS (lv_sub hl [3, 2, 1, 0] rfl)
                · skip
                  have ir87 : IV x83 (-2147483648) (-1) := iv_uL ix83 (iv_c (by decide) : IV 0 0 0) (iv_nle c85) (by decide)
                  have ir87a := ir87.1
                  have ir87b := ir87.2
                  refine lv_iconst (v := 0) hx hb dX6_mapLine_100 (by decide) ?_
                  exact th_zretX S hK hH hS hr hlocks hqr rfl (iv_w (iv_c (by decide) : IV 0 0 0) (by decide)) (th_R.i (iv_w (iv_c (by decide) : IV 0 0 0) (by decide))) dX6_mapLine_101
            · skip
              have ir88 : IV x70 0 0 := iv_eL c72 (iv_c (by decide) : IV 0 0 0)
              have ir88a := ir88.1
              have ir88b := ir88.2
              exact J65 H locs ls  hH hS (lv_sub hl [] rfl)
      · skip
        have ir89 : IV x56 0 0 := iv_eL c58 (iv_c (by decide) : IV 0 0 0)
        have ir89a := ir89.1
        have ir89b := ir89.2
        exact J33 H locs ls  hH hS (lv_sub hl [] rfl)
  exact J0 s.heap [] ls hH va_S.rf hl

set_option maxRecDepth 100000 in
theorem m_X6_knownName_v0 (l : Launch) (D : va_G) (cT : Nat → ClassId) (T : Nat → Option Nat) (q : Nat → Int) (hq : qok q) (a0 : Nat) (t0 : T a0 = some 2) (a1 : Nat) (t1 : T a1 = some 47) (y2 : Int32) (j2 : IV y2 (-2147483648) 2147483647) : th_Met l D cT T (kd q) yX6_knownName cX6_knownName 4 (some .int) (rmk 2 43) [.ref a0, .ref a1, .int y2] (th_R T (some (.inl (-1, 2)))) [2] := by
  refine th_start (by decide) (Nat.le_of_ble_eq_true rfl) ?_
  intro p e s m below meth c ls S hK hH hr hlocks hnm hl
  have hx := S.1
  have hb := S.2.1
  have hl : lv_has ls 4 [(0, .ref a0), (1, .ref a1), (2, .int y2)] := hl
  have J33 : ∀ (H : Heap) (locs : List Loc) (ls : Array Slot) (v33_3 : Int32), IV v33_3 (-1) 2 → th_H D cT T (kd q) H → va_S (th_A T [2]) s.heap H locs → lv_has ls 4 [(3, .int v33_3)] → W p l e (rmk 2 43) s m [.ref a0, .ref a1, .int y2].toArray below meth c H locs 0 0 (MQ below (th_Q D cT T (kd q) (th_R T (some (.inl (-1, 2)))) [2]) [.ref a0, .ref a1, .int y2].toArray s 0 0 (th_A T [2])) (F0 m 33 ls []) := by
    intro H locs ls v33_3 iv33_3 hH hS hl
    refine lv_iload_n hx hb dX6_knownName_33 rfl (lv_at hl 0 rfl) ?_
    exact th_iret S hK hH hS hr hlocks (th_R.i iv33_3) dX6_knownName_34
  have J0 : ∀ (H : Heap) (locs : List Loc) (ls : Array Slot), th_H D cT T (kd q) H → va_S (th_A T [2]) s.heap H locs → lv_has ls 4 [(0, .ref a0), (1, .ref a1), (2, .int y2)] → W p l e (rmk 2 43) s m [.ref a0, .ref a1, .int y2].toArray below meth c H locs 0 0 (MQ below (th_Q D cT T (kd q) (th_R T (some (.inl (-1, 2)))) [2]) [.ref a0, .ref a1, .int y2].toArray s 0 0 (th_A T [2])) (F0 m 0 ls []) := by
    intro H locs ls hH hS hl
    refine lv_aload_n hx hb dX6_knownName_0 rfl (lv_at hl 0 rfl) ?_
    refine th_callVi (n := 0) (As := []) S hK hH hS (th_A.sub (by decide)) (m_X6_kind l D cT T q hq a0 t0) gm_708 gm_705 gm_707 gm_5 gm_115 (by decide +kernel) ⟨rfl, rfl, Nat.le_of_ble_eq_true rfl, Nat.le_of_ble_eq_true rfl⟩ t0 kd_2 rfl rfl hl.1 rfl (Nat.le_of_ble_eq_true rfl) dX6_knownName_1 ⟨Nat.zero_le _, Nat.zero_le _⟩ (fun x1 H locs ix1 hH hS hF1 => ?_)
    refine lv_iconst (v := 2) hx hb dX6_knownName_4 (by decide) ?_
    refine lv_icmp_eq (tgt := 16) hx hb dX6_knownName_5 (by decide) (fun c2 => ?_) (fun c2 => ?_)
    · skip
      have ir3 : IV x1 2 2 := iv_eL c2 (iv_c (by decide) : IV 2 2 2)
      refine lv_aload_n hx hb dX6_knownName_16 rfl (lv_at hl 0 rfl) ?_
      refine lv_aload_n hx hb dX6_knownName_17 rfl (lv_at hl 1 rfl) ?_
      refine lv_iload_n hx hb dX6_knownName_18 rfl (lv_at hl 2 rfl) ?_
      refine th_callVi (n := 2) (As := [.ref a1, .int y2]) S hK hH hS (th_A.sub (by decide)) (m_X6_indexOf_v0 l D cT T q hq a0 t0 a1 t1 (y2) j2) gm_734 gm_731 gm_733 gm_9 gm_115 (by decide +kernel) ⟨rfl, rfl, Nat.le_of_ble_eq_true rfl, Nat.le_of_ble_eq_true rfl⟩ t0 kd_2 rfl rfl hl.1 rfl (Nat.le_of_ble_eq_true rfl) dX6_knownName_19 ⟨Nat.zero_le _, Nat.zero_le _⟩ (fun x4 H locs ix4 hH hS hF1 => ?_)
      refine lv_istore_n (lv' := [(3, .int x4), (0, .ref a0), (1, .ref a1), (2, .int y2)]) hx hb dX6_knownName_22 rfl hl (by decide) rfl (fun ls hl => ?_)
      refine lv_iload_n hx hb dX6_knownName_23 rfl (lv_at hl 0 rfl) ?_
      refine lv_if_ge (tgt := 33) hx hb dX6_knownName_24 (by decide) (fun c5 => ?_) (fun c5 => ?_)
      · skip
        have ir6 : IV x4 0 2 := iv_vR (iv_c (by decide) : IV 0 0 0) ix4 (iv_le c5) (by decide)
        exact J33 H locs ls x4 (iv_w ir6 (by decide)) hH hS (lv_sub hl [0] rfl)
      · skip
        have ir7 : IV x4 (-1) (-1) := iv_uL ix4 (iv_c (by decide) : IV 0 0 0) (iv_nle c5) (by decide)
        refine lv_aload_n hx hb dX6_knownName_27 rfl (lv_at hl 1 rfl) ?_
        refine lv_iconst (v := 5) hx hb dX6_knownName_28 (by decide) ?_
        refine th_callVi (n := 1) (As := [.int 5]) S hK hH hS (th_A.sub (by decide)) (m_X6_blame l D cT T q hq a0 t0 (5) (iv_top _)) gm_722 gm_719 gm_721 gm_6 gm_115 (by decide +kernel) ⟨rfl, rfl, Nat.le_of_ble_eq_true rfl, Nat.le_of_ble_eq_true rfl⟩ t0 kd_2 rfl rfl hl.1 rfl (Nat.le_of_ble_eq_true rfl) dX6_knownName_29 ⟨Nat.zero_le _, Nat.zero_le _⟩ (fun x8 H locs ix8 hH hS hF1 => ?_)
        refine lv_pop hx hb dX6_knownName_32 rfl ?_
        exact J33 H locs ls x4 (iv_w ir7 (by decide)) hH hS (lv_sub hl [0] rfl)
    · skip
      refine lv_aload_n hx hb dX6_knownName_8 rfl (lv_at hl 0 rfl) ?_
      refine lv_iconst (v := 2) hx hb dX6_knownName_9 (by decide) ?_
      refine th_callVi (n := 1) (As := [.int 2]) S hK hH hS (th_A.sub (by decide)) (m_X6_blame l D cT T q hq a0 t0 (2) (iv_top _)) gm_722 gm_719 gm_721 gm_6 gm_115 (by decide +kernel) ⟨rfl, rfl, Nat.le_of_ble_eq_true rfl, Nat.le_of_ble_eq_true rfl⟩ t0 kd_2 rfl rfl hl.1 rfl (Nat.le_of_ble_eq_true rfl) dX6_knownName_10 ⟨Nat.zero_le _, Nat.zero_le _⟩ (fun x9 H locs ix9 hH hS hF1 => ?_)
      refine lv_pop hx hb dX6_knownName_13 rfl ?_
      refine lv_iconst (v := (-1)) hx hb dX6_knownName_14 (by decide) ?_
      exact th_iret S hK hH hS hr hlocks (th_R.i (iv_w (iv_c (by decide) : IV (-1) (-1) (-1)) (by decide))) dX6_knownName_15
  exact J0 s.heap [] ls hH va_S.rf hl

set_option maxRecDepth 100000 in
theorem m_X6_knownName_v1 (l : Launch) (D : va_G) (cT : Nat → ClassId) (T : Nat → Option Nat) (q : Nat → Int) (hq : qok q) (a0 : Nat) (t0 : T a0 = some 2) (a1 : Nat) (t1 : T a1 = some 48) (y2 : Int32) (j2 : IV y2 (-2147483648) 2147483647) : th_Met l D cT T (kd q) yX6_knownName cX6_knownName 4 (some .int) (rmk 2 43) [.ref a0, .ref a1, .int y2] (th_R T (some (.inl (-1, 3)))) [2] := by
  refine th_start (by decide) (Nat.le_of_ble_eq_true rfl) ?_
  intro p e s m below meth c ls S hK hH hr hlocks hnm hl
  have hx := S.1
  have hb := S.2.1
  have hl : lv_has ls 4 [(0, .ref a0), (1, .ref a1), (2, .int y2)] := hl
  have J33 : ∀ (H : Heap) (locs : List Loc) (ls : Array Slot) (v33_3 : Int32), IV v33_3 (-1) 3 → th_H D cT T (kd q) H → va_S (th_A T [2]) s.heap H locs → lv_has ls 4 [(3, .int v33_3)] → W p l e (rmk 2 43) s m [.ref a0, .ref a1, .int y2].toArray below meth c H locs 0 0 (MQ below (th_Q D cT T (kd q) (th_R T (some (.inl (-1, 3)))) [2]) [.ref a0, .ref a1, .int y2].toArray s 0 0 (th_A T [2])) (F0 m 33 ls []) := by
    intro H locs ls v33_3 iv33_3 hH hS hl
    refine lv_iload_n hx hb dX6_knownName_33 rfl (lv_at hl 0 rfl) ?_
    exact th_iret S hK hH hS hr hlocks (th_R.i iv33_3) dX6_knownName_34
  have J0 : ∀ (H : Heap) (locs : List Loc) (ls : Array Slot), th_H D cT T (kd q) H → va_S (th_A T [2]) s.heap H locs → lv_has ls 4 [(0, .ref a0), (1, .ref a1), (2, .int y2)] → W p l e (rmk 2 43) s m [.ref a0, .ref a1, .int y2].toArray below meth c H locs 0 0 (MQ below (th_Q D cT T (kd q) (th_R T (some (.inl (-1, 3)))) [2]) [.ref a0, .ref a1, .int y2].toArray s 0 0 (th_A T [2])) (F0 m 0 ls []) := by
    intro H locs ls hH hS hl
    refine lv_aload_n hx hb dX6_knownName_0 rfl (lv_at hl 0 rfl) ?_
    refine th_callVi (n := 0) (As := []) S hK hH hS (th_A.sub (by decide)) (m_X6_kind l D cT T q hq a0 t0) gm_708 gm_705 gm_707 gm_5 gm_115 (by decide +kernel) ⟨rfl, rfl, Nat.le_of_ble_eq_true rfl, Nat.le_of_ble_eq_true rfl⟩ t0 kd_2 rfl rfl hl.1 rfl (Nat.le_of_ble_eq_true rfl) dX6_knownName_1 ⟨Nat.zero_le _, Nat.zero_le _⟩ (fun x1 H locs ix1 hH hS hF1 => ?_)
    refine lv_iconst (v := 2) hx hb dX6_knownName_4 (by decide) ?_
    refine lv_icmp_eq (tgt := 16) hx hb dX6_knownName_5 (by decide) (fun c2 => ?_) (fun c2 => ?_)
    · skip
      have ir3 : IV x1 2 2 := iv_eL c2 (iv_c (by decide) : IV 2 2 2)
      refine lv_aload_n hx hb dX6_knownName_16 rfl (lv_at hl 0 rfl) ?_
      refine lv_aload_n hx hb dX6_knownName_17 rfl (lv_at hl 1 rfl) ?_
      refine lv_iload_n hx hb dX6_knownName_18 rfl (lv_at hl 2 rfl) ?_
      refine th_callVi (n := 2) (As := [.ref a1, .int y2]) S hK hH hS (th_A.sub (by decide)) (m_X6_indexOf_v1 l D cT T q hq a0 t0 a1 t1 (y2) j2) gm_734 gm_731 gm_733 gm_9 gm_115 (by decide +kernel) ⟨rfl, rfl, Nat.le_of_ble_eq_true rfl, Nat.le_of_ble_eq_true rfl⟩ t0 kd_2 rfl rfl hl.1 rfl (Nat.le_of_ble_eq_true rfl) dX6_knownName_19 ⟨Nat.zero_le _, Nat.zero_le _⟩ (fun x4 H locs ix4 hH hS hF1 => ?_)
      refine lv_istore_n (lv' := [(3, .int x4), (0, .ref a0), (1, .ref a1), (2, .int y2)]) hx hb dX6_knownName_22 rfl hl (by decide) rfl (fun ls hl => ?_)
      refine lv_iload_n hx hb dX6_knownName_23 rfl (lv_at hl 0 rfl) ?_
      refine lv_if_ge (tgt := 33) hx hb dX6_knownName_24 (by decide) (fun c5 => ?_) (fun c5 => ?_)
      · skip
        have ir6 : IV x4 0 3 := iv_vR (iv_c (by decide) : IV 0 0 0) ix4 (iv_le c5) (by decide)
        exact J33 H locs ls x4 (iv_w ir6 (by decide)) hH hS (lv_sub hl [0] rfl)
      · skip
        have ir7 : IV x4 (-1) (-1) := iv_uL ix4 (iv_c (by decide) : IV 0 0 0) (iv_nle c5) (by decide)
        refine lv_aload_n hx hb dX6_knownName_27 rfl (lv_at hl 1 rfl) ?_
        refine lv_iconst (v := 5) hx hb dX6_knownName_28 (by decide) ?_
        refine th_callVi (n := 1) (As := [.int 5]) S hK hH hS (th_A.sub (by decide)) (m_X6_blame l D cT T q hq a0 t0 (5) (iv_top _)) gm_722 gm_719 gm_721 gm_6 gm_115 (by decide +kernel) ⟨rfl, rfl, Nat.le_of_ble_eq_true rfl, Nat.le_of_ble_eq_true rfl⟩ t0 kd_2 rfl rfl hl.1 rfl (Nat.le_of_ble_eq_true rfl) dX6_knownName_29 ⟨Nat.zero_le _, Nat.zero_le _⟩ (fun x8 H locs ix8 hH hS hF1 => ?_)
        refine lv_pop hx hb dX6_knownName_32 rfl ?_
        exact J33 H locs ls x4 (iv_w ir7 (by decide)) hH hS (lv_sub hl [0] rfl)
    · skip
      refine lv_aload_n hx hb dX6_knownName_8 rfl (lv_at hl 0 rfl) ?_
      refine lv_iconst (v := 2) hx hb dX6_knownName_9 (by decide) ?_
      refine th_callVi (n := 1) (As := [.int 2]) S hK hH hS (th_A.sub (by decide)) (m_X6_blame l D cT T q hq a0 t0 (2) (iv_top _)) gm_722 gm_719 gm_721 gm_6 gm_115 (by decide +kernel) ⟨rfl, rfl, Nat.le_of_ble_eq_true rfl, Nat.le_of_ble_eq_true rfl⟩ t0 kd_2 rfl rfl hl.1 rfl (Nat.le_of_ble_eq_true rfl) dX6_knownName_10 ⟨Nat.zero_le _, Nat.zero_le _⟩ (fun x9 H locs ix9 hH hS hF1 => ?_)
      refine lv_pop hx hb dX6_knownName_13 rfl ?_
      refine lv_iconst (v := (-1)) hx hb dX6_knownName_14 (by decide) ?_
      exact th_iret S hK hH hS hr hlocks (th_R.i (iv_w (iv_c (by decide) : IV (-1) (-1) (-1)) (by decide))) dX6_knownName_15
  exact J0 s.heap [] ls hH va_S.rf hl

set_option maxRecDepth 100000 in
theorem m_X6_mapsOfPlace (l : Launch) (D : va_G) (cT : Nat → ClassId) (T : Nat → Option Nat) (q : Nat → Int) (hq : qok q) (a0 : Nat) (t0 : T a0 = some 2) (y1 : Int32) (j1 : IV y1 0 7) : th_Met l D cT T (kd q) yX6_mapsOfPlace cX6_mapsOfPlace 4 (some .boolean) (rmk 3 66) [.ref a0, .int y1] (th_R T (some (.inl (0, 1)))) [2, 52, 53] := by
  refine th_start (by decide) (Nat.le_of_ble_eq_true rfl) ?_
  intro p e s m below meth c ls S hK hH hr hlocks hnm hl
  have hx := S.1
  have hb := S.2.1
  have hl : lv_has ls 4 [(0, .ref a0), (1, .int y1)] := hl
  have J112 : ∀ (H : Heap) (locs : List Loc) (ls : Array Slot), th_H D cT T (kd q) H → va_S (th_A T [2, 52, 53]) s.heap H locs → lv_has ls 4 [] → W p l e (rmk 3 66) s m [.ref a0, .int y1].toArray below meth c H locs 0 0 (MQ below (th_Q D cT T (kd q) (th_R T (some (.inl (0, 1)))) [2, 52, 53]) [.ref a0, .int y1].toArray s 0 0 (th_A T [2, 52, 53])) (F0 m 112 ls []) := by
    intro H locs ls hH hS hl
    refine lv_iconst (v := 1) hx hb dX6_mapsOfPlace_112 (by decide) ?_
    exact th_zret S hK hH hS hr hlocks (iv_w (iv_c (by decide) : IV 1 1 1) (by decide)) (th_R.i (iv_w (iv_c (by decide) : IV 1 1 1) (by decide))) dX6_mapsOfPlace_113
  have J2 : ∀ (n : Nat) (H : Heap) (locs : List Loc) (ls : Array Slot) (v2_2 : Int32), IV v2_2 0 5 → th_H D cT T (kd q) H → va_S (th_A T [2, 52, 53]) s.heap H locs → lv_has ls 4 [(0, .ref a0), (1, .int y1), (2, .int v2_2)] → (5 + 1 - v2_2.toInt).toNat < n → W p l e (rmk 3 66) s m [.ref a0, .int y1].toArray below meth c H locs 0 0 (MQ below (th_Q D cT T (kd q) (th_R T (some (.inl (0, 1)))) [2, 52, 53]) [.ref a0, .int y1].toArray s 0 0 (th_A T [2, 52, 53])) (F0 m 2 ls []) := by
    intro n
    induction n with
    | zero => intro H locs ls v2_2 iv2_2 hH hS hl hn; exact absurd hn (Nat.not_lt_zero _)
    | succ n ih2 =>
      intro H locs ls v2_2 iv2_2 hH hS hl hn2
      have J19 : ∀ (H : Heap) (locs : List Loc) (ls : Array Slot), IV v2_2 0 4 → th_H D cT T (kd q) H → va_S (th_A T [2, 52, 53]) s.heap H locs → lv_has ls 4 [(0, .ref a0), (1, .int y1), (2, .int v2_2)] → W p l e (rmk 3 66) s m [.ref a0, .int y1].toArray below meth c H locs 0 0 (MQ below (th_Q D cT T (kd q) (th_R T (some (.inl (0, 1)))) [2, 52, 53]) [.ref a0, .int y1].toArray s 0 0 (th_A T [2, 52, 53])) (F0 m 19 ls []) := by
        intro H locs ls f19_v2_2 hH hS hl
        refine lv_aload_n hx hb dX6_mapsOfPlace_19 rfl (lv_at hl 0 rfl) ?_
        refine lv_aload_n hx hb dX6_mapsOfPlace_20 rfl (lv_at hl 0 rfl) ?_
        refine th_get S hK hH inG6 t0 kd_2 rfl 1 (by decide) gm_340 rfl rfl dX6_mapsOfPlace_21 (fun v1 hv1 fv1 => ?_)
        obtain ⟨rf2, rfl, trf2⟩ := th_V.ref hv1
        refine th_get S hK hH inG4 trf2 kd_46 rfl 1 (by decide) gm_238 rfl rfl dX6_mapsOfPlace_24 (fun v3 hv3 fv3 => ?_)
        obtain ⟨rf4, rfl, trf4⟩ := th_V.ref hv3
        refine lv_aload_n hx hb dX6_mapsOfPlace_27 rfl (lv_at hl 0 rfl) ?_
        refine th_getK S hK fv1 inG6 rfl (by decide) gm_340 rfl dX6_mapsOfPlace_28 ?_
        refine th_get S hK hH inG4 trf2 kd_46 rfl 12 (by decide) gm_280 rfl rfl dX6_mapsOfPlace_31 (fun v6 hv6 fv6 => ?_)
        obtain ⟨x7, rfl, ix7⟩ := th_V.int hv6
        have ix7 : IV x7 0 4 := iv_w ix7 (qok_4 hq)
        refine th_callVi (n := 2) (As := [.ref rf4, .int x7]) S hK hH hS (th_A.sub (by decide)) (m_X6_knownName_v1 l D cT T q hq a0 t0 rf4 trf4 (x7) (iv_top _)) gm_789 gm_786 gm_788 gm_19 gm_115 (by decide +kernel) ⟨rfl, rfl, Nat.le_of_ble_eq_true rfl, Nat.le_of_ble_eq_true rfl⟩ t0 kd_2 rfl rfl hl.1 rfl (Nat.le_of_ble_eq_true rfl) dX6_mapsOfPlace_34 ⟨Nat.zero_le _, Nat.zero_le _⟩ (fun x8 H locs ix8 hH hS hF1 => ?_)
        refine lv_istore_n (lv' := [(3, .int x8), (0, .ref a0), (1, .int y1), (2, .int v2_2)]) hx hb dX6_mapsOfPlace_37 rfl hl (by decide) rfl (fun ls hl => ?_)
        refine lv_iload_n hx hb dX6_mapsOfPlace_38 rfl (lv_at hl 0 rfl) ?_
        refine lv_if_ge (tgt := 44) hx hb dX6_mapsOfPlace_39 (by decide) (fun c9 => ?_) (fun c9 => ?_)
        · skip
          have ir10 : IV x8 0 3 := iv_vR (iv_c (by decide) : IV 0 0 0) ix8 (iv_le c9) (by decide)
          refine lv_aload_n hx hb dX6_mapsOfPlace_44 rfl (lv_at hl 1 rfl) ?_
          refine th_get S hK hH inG6 t0 kd_2 rfl 1 (by decide) gm_340 rfl rfl dX6_mapsOfPlace_45 (fun v11 hv11 fv11 => ?_)
          obtain ⟨rf12, rfl, trf12⟩ := th_V.ref hv11
          refine th_get S hK hH inG4 trf12 kd_46 rfl 5 (by decide) gm_250 rfl rfl dX6_mapsOfPlace_48 (fun v13 hv13 fv13 => ?_)
          obtain ⟨rf14, rfl, trf14⟩ := th_V.ref hv13
          refine lv_iload_n hx hb dX6_mapsOfPlace_51 rfl (lv_at hl 2 rfl) ?_
          refine th_iald S hK hH trf14 kd_52 (th_in (hi := 7) j1 (by decide)) dX6_mapsOfPlace_52 (fun v15 hv15 => ?_)
          obtain ⟨x16, rfl, ix16⟩ := th_V.int hv15
          refine lv_iload_n hx hb dX6_mapsOfPlace_53 rfl (lv_at hl 0 rfl) ?_
          refine lv_ishr hx hb dX6_mapsOfPlace_54 ?_
          refine lv_topi (fun x17 ex17 => ?_)
          have ix17 := iv_top x17
          refine lv_iconst (v := 1) hx hb dX6_mapsOfPlace_55 (by decide) ?_
          refine lv_iand hx hb dX6_mapsOfPlace_56 ?_
          refine lv_topi (fun x18 ex18 => ?_)
          have ix18 : IV x18 0 1 := by rw [ex18]; exact iv_and (h2 := 1) (iv_w (iv_c (by decide) : IV 1 1 1) (by decide)) (by decide)
          refine lv_if_eq (tgt := 66) hx hb dX6_mapsOfPlace_57 (by decide) (fun c19 => ?_) (fun c19 => ?_)
          · skip
            have ir20 : IV x18 0 0 := iv_eL c19 (iv_c (by decide) : IV 0 0 0)
            refine lv_aload_n hx hb dX6_mapsOfPlace_66 rfl (lv_at hl 1 rfl) ?_
            refine th_getK S hK fv11 inG6 rfl (by decide) gm_340 rfl dX6_mapsOfPlace_67 ?_
            refine th_getK S hK fv13 inG4 rfl (by decide) gm_250 rfl dX6_mapsOfPlace_70 ?_
            refine lv_iload_n hx hb dX6_mapsOfPlace_73 rfl (lv_at hl 2 rfl) ?_
            refine lv_dup2_11 hx hb dX6_mapsOfPlace_74 rfl rfl ?_
            refine th_iald S hK hH trf14 kd_52 (th_in (hi := 7) j1 (by decide)) dX6_mapsOfPlace_75 (fun v23 hv23 => ?_)
            obtain ⟨x24, rfl, ix24⟩ := th_V.int hv23
            refine lv_iconst (v := 1) hx hb dX6_mapsOfPlace_76 (by decide) ?_
            refine lv_iload_n hx hb dX6_mapsOfPlace_77 rfl (lv_at hl 0 rfl) ?_
            refine lv_ishl hx hb dX6_mapsOfPlace_78 ?_
            refine lv_topi (fun x25 ex25 => ?_)
            have ix25 := iv_top x25
            refine lv_ior hx hb dX6_mapsOfPlace_79 ?_
            refine lv_topi (fun x26 ex26 => ?_)
            have ix26 := iv_top x26
            refine th_iast S hK hH hS ⟨52, by decide, trf14⟩ trf14 kd_52 (th_in (hi := 7) j1 (by decide)) (th_iv ix26) dX6_mapsOfPlace_80 (fun H locs hH hS hq1 => ?_)
            have f27 := fv11.kept (hq1 _ (th_ne t0 trf14 (by decide)))
            have f28 := fv13.kept (hq1 _ (th_ne trf12 trf14 (by decide)))
            refine lv_aload_n hx hb dX6_mapsOfPlace_81 rfl (lv_at hl 1 rfl) ?_
            refine th_getK S hK f27 inG6 rfl (by decide) gm_340 rfl dX6_mapsOfPlace_82 ?_
            refine th_get S hK hH inG4 trf12 kd_46 rfl 6 (by decide) gm_254 rfl rfl dX6_mapsOfPlace_85 (fun v30 hv30 fv30 => ?_)
            obtain ⟨rf31, rfl, trf31⟩ := th_V.ref hv30
            refine lv_iload_n hx hb dX6_mapsOfPlace_88 rfl (lv_at hl 0 rfl) ?_
            refine lv_dup2_11 hx hb dX6_mapsOfPlace_89 rfl rfl ?_
            refine th_iald S hK hH trf31 kd_53 (th_in (hi := 3) ir10 (by decide)) dX6_mapsOfPlace_90 (fun v32 hv32 => ?_)
            obtain ⟨x33, rfl, ix33⟩ := th_V.int hv32
            refine lv_iconst (v := 1) hx hb dX6_mapsOfPlace_91 (by decide) ?_
            refine lv_iload_n hx hb dX6_mapsOfPlace_92 rfl (lv_at hl 2 rfl) ?_
            refine lv_ishl hx hb dX6_mapsOfPlace_93 ?_
            refine lv_topi (fun x34 ex34 => ?_)
            have ix34 := iv_top x34
            refine lv_ior hx hb dX6_mapsOfPlace_94 ?_
            refine lv_topi (fun x35 ex35 => ?_)
            have ix35 := iv_top x35
            refine th_iast S hK hH hS ⟨53, by decide, trf31⟩ trf31 kd_53 (th_in (hi := 3) ir10 (by decide)) (th_iv ix35) dX6_mapsOfPlace_95 (fun H locs hH hS hq1 => ?_)
            have f36 := f27.kept (hq1 _ (th_ne t0 trf31 (by decide)))
            have f37 := f28.kept (hq1 _ (th_ne trf12 trf31 (by decide)))
            refine lv_aload_n hx hb dX6_mapsOfPlace_96 rfl (lv_at hl 1 rfl) ?_
            refine lv_dup hx hb dX6_mapsOfPlace_97 rfl ?_
            refine th_get S hK hH inG6 t0 kd_2 rfl 2 (by decide) gm_342 rfl rfl dX6_mapsOfPlace_98 (fun v38 hv38 fv38 => ?_)
            obtain ⟨x39, rfl, ix39⟩ := th_V.int hv38
            refine lv_iconst (v := 1) hx hb dX6_mapsOfPlace_101 (by decide) ?_
            refine lv_iadd hx hb dX6_mapsOfPlace_102 ?_
            refine lv_topi (fun x40 ex40 => ?_)
            have ix40 := iv_top x40
            refine th_put S hK hH hS ⟨2, by decide, t0⟩ inG6 tyX6 tyX6_ok nmX6 t0 kd_2 rfl 2 (by decide) gm_342 rfl rfl rfl rfl (th_iv ix40) (fun _ _ => trivial) (ty := .int) (by decide +kernel) rfl rfl dX6_mapsOfPlace_103 (fun H locs hH hS hq1 hp1 => ?_)
            have f41 := hp1.2 1 _ (by decide) (by decide) f36
            have f42 := f37.kept (hq1 _ (th_ne trf12 t0 (by decide)))
            have f43 := hp1.1
            refine th_iinc S dX6_mapsOfPlace_106 hl (k := 3) rfl (by decide) f19_v2_2 (by decide) (fun x44 ls ex44 ix44 hl => ?_)
            have hl : lv_has ls 4 [(2, .int x44), (3, .int x8), (0, .ref a0), (1, .int y1)] := hl
            have ix44 : IV x44 1 5 := ix44
            refine lv_goto (tgt := 2) hx hb dX6_mapsOfPlace_109 (by decide) ?_
            exact ih2 H locs ls x44 (iv_w ix44 (by decide)) hH hS (lv_sub hl [2, 3, 0] rfl) (th_up iv2_2 ex44 (by decide) hn2)
          · skip
            have ir45 : IV x18 1 1 := iv_cutL ix18 (iv_c (by decide) : IV 0 0 0) c19 (by decide)
            refine lv_aload_n hx hb dX6_mapsOfPlace_60 rfl (lv_at hl 1 rfl) ?_
            refine lv_iconst (v := 3) hx hb dX6_mapsOfPlace_61 (by decide) ?_
            refine th_callVi (n := 1) (As := [.int 3]) S hK hH hS (th_A.sub (by decide)) (m_X6_blame l D cT T q hq a0 t0 (3) (iv_top _)) gm_722 gm_719 gm_721 gm_6 gm_115 (by decide +kernel) ⟨rfl, rfl, Nat.le_of_ble_eq_true rfl, Nat.le_of_ble_eq_true rfl⟩ t0 kd_2 rfl rfl hl.1 rfl (Nat.le_of_ble_eq_true rfl) dX6_mapsOfPlace_62 ⟨Nat.zero_le _, Nat.zero_le _⟩ (fun x46 H locs ix46 hH hS hF1 => ?_)
            have f47 := fv13.kept (hF1 _ fv13.lt (th_off trf12 (by decide)))
            exact th_zret S hK hH hS hr hlocks (iv_w ix46 (by decide)) (th_R.i (iv_w ix46 (by decide))) dX6_mapsOfPlace_65
        · skip
          have ir48 : IV x8 (-1) (-1) := iv_uL ix8 (iv_c (by decide) : IV 0 0 0) (iv_nle c9) (by decide)
          refine lv_iconst (v := 0) hx hb dX6_mapsOfPlace_42 (by decide) ?_
          exact th_zret S hK hH hS hr hlocks (iv_w (iv_c (by decide) : IV 0 0 0) (by decide)) (th_R.i (iv_w (iv_c (by decide) : IV 0 0 0) (by decide))) dX6_mapsOfPlace_43
      refine lv_iload_n hx hb dX6_mapsOfPlace_2 rfl (lv_at hl 2 rfl) ?_
      refine lv_if_eq (tgt := 19) hx hb dX6_mapsOfPlace_3 (by decide) (fun c49 => ?_) (fun c49 => ?_)
      · skip
        have ir50 : IV v2_2 0 0 := iv_eL c49 (iv_c (by decide) : IV 0 0 0)
        exact J19 H locs ls (iv_w ir50 (by decide)) hH hS (lv_sub hl [0, 1, 2] rfl)
      · skip
        have ir51 : IV v2_2 1 5 := iv_cutL iv2_2 (iv_c (by decide) : IV 0 0 0) c49 (by decide)
        refine lv_iload_n hx hb dX6_mapsOfPlace_6 rfl (lv_at hl 2 rfl) ?_
        refine lv_iconst (v := 4) hx hb dX6_mapsOfPlace_7 (by decide) ?_
        refine lv_icmp_gt (tgt := 112) hx hb dX6_mapsOfPlace_8 (by decide) (fun c52 => ?_) (fun c52 => ?_)
        · skip
          have ir53 : IV v2_2 5 5 := iv_uR (iv_c (by decide) : IV 4 4 4) ir51 (iv_lt c52) (by decide)
          exact J112 H locs ls  hH hS (lv_sub hl [] rfl)
        · skip
          have ir54 : IV v2_2 1 4 := iv_vL ir51 (iv_c (by decide) : IV 4 4 4) (iv_nlt c52) (by decide)
          refine lv_aload_n hx hb dX6_mapsOfPlace_11 rfl (lv_at hl 0 rfl) ?_
          refine th_callVi (n := 0) (As := []) S hK hH hS (th_A.sub (by decide)) (m_X6_kind l D cT T q hq a0 t0) gm_708 gm_705 gm_707 gm_5 gm_115 (by decide +kernel) ⟨rfl, rfl, Nat.le_of_ble_eq_true rfl, Nat.le_of_ble_eq_true rfl⟩ t0 kd_2 rfl rfl hl.1 rfl (Nat.le_of_ble_eq_true rfl) dX6_mapsOfPlace_12 ⟨Nat.zero_le _, Nat.zero_le _⟩ (fun x55 H locs ix55 hH hS hF1 => ?_)
          refine lv_iconst (v := 2) hx hb dX6_mapsOfPlace_15 (by decide) ?_
          refine lv_icmp_ne (tgt := 112) hx hb dX6_mapsOfPlace_16 (by decide) (fun c56 => ?_) (fun c56 => ?_)
          · skip
            exact J112 H locs ls  hH hS (lv_sub hl [] rfl)
          · skip
            have ir57 : IV x55 2 2 := iv_eL c56 (iv_c (by decide) : IV 2 2 2)
            exact J19 H locs ls (iv_w ir54 (by decide)) hH hS (lv_sub hl [0, 1, 2] rfl)
  have J0 : ∀ (H : Heap) (locs : List Loc) (ls : Array Slot), th_H D cT T (kd q) H → va_S (th_A T [2, 52, 53]) s.heap H locs → lv_has ls 4 [(0, .ref a0), (1, .int y1)] → W p l e (rmk 3 66) s m [.ref a0, .int y1].toArray below meth c H locs 0 0 (MQ below (th_Q D cT T (kd q) (th_R T (some (.inl (0, 1)))) [2, 52, 53]) [.ref a0, .int y1].toArray s 0 0 (th_A T [2, 52, 53])) (F0 m 0 ls []) := by
    intro H locs ls hH hS hl
    refine lv_iconst (v := 0) hx hb dX6_mapsOfPlace_0 (by decide) ?_
    refine lv_istore_n (lv' := [(2, .int 0), (0, .ref a0), (1, .int y1)]) hx hb dX6_mapsOfPlace_1 rfl hl (by decide) rfl (fun ls hl => ?_)
    exact J2 ((5 + 1 - Int32.toInt 0).toNat + 1) H locs ls 0 (iv_w (iv_c (by decide) : IV 0 0 0) (by decide)) hH hS (lv_sub hl [1, 2, 0] rfl) (Nat.lt_succ_self _)
  exact J0 s.heap [] ls hH va_S.rf hl

set_option maxRecDepth 100000 in
theorem m_X6_placeLine (l : Launch) (D : va_G) (cT : Nat → ClassId) (T : Nat → Option Nat) (q : Nat → Int) (hT : tok T) (hqr : qokr q) (hp0 : q 5 ≤ 7) (a0 : Nat) (t0 : T a0 = some 2) : th_MetX l D cT T q yX6_placeLine cX6_placeLine 4 (some .boolean) (rmk 4 89) [.ref a0] (th_R T (some (.inl (0, 1)))) [2, 29, 46, 49, 51, 52, 53] := by
  refine th_startX (by decide) (Nat.le_of_ble_eq_true rfl) ?_
  have hq := hqr.1
  intro p e s m below meth c ls S hK hH hr hlocks hnm hl
  have hx := S.1
  have hb := S.2.1
  have hl : lv_has ls 4 [(0, .ref a0)] := hl
  have J89 : ∀ (H : Heap) (locs : List Loc) (ls : Array Slot), th_H D cT T (kd q) H → va_S (th_A T [2, 29, 46, 49, 51, 52, 53]) s.heap H locs → lv_has ls 4 [] → W p l e (rmk 4 89) s m [.ref a0].toArray below meth c H locs 0 0 (MQ below (th_QX D cT T q (th_R T (some (.inl (0, 1)))) [2, 29, 46, 49, 51, 52, 53]) [.ref a0].toArray s 0 0 (th_A T [2, 29, 46, 49, 51, 52, 53])) (F0 m 89 ls []) := by
    intro H locs ls hH hS hl
    refine lv_iconst (v := 0) hx hb dX6_placeLine_89 (by decide) ?_
    exact th_zretX S hK hH hS hr hlocks hqr rfl (iv_w (iv_c (by decide) : IV 0 0 0) (by decide)) (th_R.i (iv_w (iv_c (by decide) : IV 0 0 0) (by decide))) dX6_placeLine_90
  have J57 : ∀ (H : Heap) (locs : List Loc) (ls : Array Slot), th_H D cT T (kd q) H → va_S (th_A T [2, 29, 46, 49, 51, 52, 53]) s.heap H locs → lv_has ls 4 [] → W p l e (rmk 4 89) s m [.ref a0].toArray below meth c H locs 0 0 (MQ below (th_QX D cT T q (th_R T (some (.inl (0, 1)))) [2, 29, 46, 49, 51, 52, 53]) [.ref a0].toArray s 0 0 (th_A T [2, 29, 46, 49, 51, 52, 53])) (F0 m 57 ls []) := by
    intro H locs ls hH hS hl
    refine lv_iconst (v := 0) hx hb dX6_placeLine_57 (by decide) ?_
    exact th_zretX S hK hH hS hr hlocks hqr rfl (iv_w (iv_c (by decide) : IV 0 0 0) (by decide)) (th_R.i (iv_w (iv_c (by decide) : IV 0 0 0) (by decide))) dX6_placeLine_58
  have J33 : ∀ (H : Heap) (locs : List Loc) (ls : Array Slot), th_H D cT T (kd q) H → va_S (th_A T [2, 29, 46, 49, 51, 52, 53]) s.heap H locs → lv_has ls 4 [] → W p l e (rmk 4 89) s m [.ref a0].toArray below meth c H locs 0 0 (MQ below (th_QX D cT T q (th_R T (some (.inl (0, 1)))) [2, 29, 46, 49, 51, 52, 53]) [.ref a0].toArray s 0 0 (th_A T [2, 29, 46, 49, 51, 52, 53])) (F0 m 33 ls []) := by
    intro H locs ls hH hS hl
    refine lv_iconst (v := 0) hx hb dX6_placeLine_33 (by decide) ?_
    exact th_zretX S hK hH hS hr hlocks hqr rfl (iv_w (iv_c (by decide) : IV 0 0 0) (by decide)) (th_R.i (iv_w (iv_c (by decide) : IV 0 0 0) (by decide))) dX6_placeLine_34
  have J0 : ∀ (H : Heap) (locs : List Loc) (ls : Array Slot), th_H D cT T (kd q) H → va_S (th_A T [2, 29, 46, 49, 51, 52, 53]) s.heap H locs → lv_has ls 4 [(0, .ref a0)] → W p l e (rmk 4 89) s m [.ref a0].toArray below meth c H locs 0 0 (MQ below (th_QX D cT T q (th_R T (some (.inl (0, 1)))) [2, 29, 46, 49, 51, 52, 53]) [.ref a0].toArray s 0 0 (th_A T [2, 29, 46, 49, 51, 52, 53])) (F0 m 0 ls []) := by
    intro H locs ls hH hS hl
    refine lv_aload_n hx hb dX6_placeLine_0 rfl (lv_at hl 0 rfl) ?_
    refine th_get S hK hH inG6 t0 kd_2 rfl 1 (by decide) gm_340 rfl rfl dX6_placeLine_1 (fun v1 hv1 fv1 => ?_)
    obtain ⟨rf2, rfl, trf2⟩ := th_V.ref hv1
    refine th_get S hK hH inG4 trf2 kd_46 rfl 13 (by decide) gm_285 rfl rfl dX6_placeLine_4 (fun v3 hv3 fv3 => ?_)
    obtain ⟨x4, rfl, ix4⟩ := th_V.int hv3
    have kx4 : IV x4 (q 5) (q 5) := ix4
    have kx4a := kx4.1
    have kx4b := kx4.2
    have ix4 : IV x4 0 7 := iv_w ix4 ⟨(qok_5 hq).1, hp0⟩
    refine lv_istore_n (lv' := [(1, .int x4), (0, .ref a0)]) hx hb dX6_placeLine_7 rfl hl (by decide) rfl (fun ls hl => ?_)
    refine lv_aload_n hx hb dX6_placeLine_8 rfl (lv_at hl 1 rfl) ?_
    refine lv_aload_n hx hb dX6_placeLine_9 rfl (lv_at hl 1 rfl) ?_
    refine th_getK S hK fv1 inG6 rfl (by decide) gm_340 rfl dX6_placeLine_10 ?_
    refine th_get S hK hH inG4 trf2 kd_46 rfl 2 (by decide) gm_240 rfl rfl dX6_placeLine_13 (fun v6 hv6 fv6 => ?_)
    obtain ⟨rf7, rfl, trf7⟩ := th_V.ref hv6
    refine lv_iload_n hx hb dX6_placeLine_16 rfl (lv_at hl 0 rfl) ?_
    refine th_callVi (n := 2) (As := [.ref rf7, .int x4]) S hK hH hS (th_A.sub (by decide)) (m_X6_newName_v2 l D cT T q hq a0 t0 rf7 trf7 (x4) (iv_w ix4 (by decide))) gm_730 gm_727 gm_729 gm_8 gm_115 (by decide +kernel) ⟨rfl, rfl, Nat.le_of_ble_eq_true rfl, Nat.le_of_ble_eq_true rfl⟩ t0 kd_2 rfl rfl hl.1 rfl (Nat.le_of_ble_eq_true rfl) dX6_placeLine_17 ⟨Nat.zero_le _, Nat.zero_le _⟩ (fun x8 H locs ix8 hH hS hF1 => ?_)
    have f9 := fv3.kept (hF1 _ fv3.lt (th_off trf2 (by decide)))
    refine lv_if_eq (tgt := 33) hx hb dX6_placeLine_20 (by decide) (fun c10 => ?_) (fun c10 => ?_)
    · skip
      have ir11 : IV x8 0 0 := iv_eL c10 (iv_c (by decide) : IV 0 0 0)
      have ir11a := ir11.1
      have ir11b := ir11.2
      exact J33 H locs ls  hH hS (lv_sub hl [] rfl)
    · skip
      have ir12 : IV x8 1 1 := iv_cutL ix8 (iv_c (by decide) : IV 0 0 0) c10 (by decide)
      have ir12a := ir12.1
      have ir12b := ir12.2
      refine lv_aload_n hx hb dX6_placeLine_23 rfl (lv_at hl 1 rfl) ?_
      refine lv_sipush (v := 140) hx hb dX6_placeLine_24 (by decide) ?_
      refine th_callVi (n := 1) (As := [.int 140]) S hK hH hS (th_A.sub (by decide)) (m_X6_take l D cT T q hq a0 t0 (140) (iv_top _)) gm_750 gm_747 gm_749 gm_13 gm_115 (by decide +kernel) ⟨rfl, rfl, Nat.le_of_ble_eq_true rfl, Nat.le_of_ble_eq_true rfl⟩ t0 kd_2 rfl rfl hl.1 rfl (Nat.le_of_ble_eq_true rfl) dX6_placeLine_27 ⟨Nat.zero_le _, Nat.zero_le _⟩ (fun x13 H locs ix13 hH hS hF1 => ?_)
      have f14 := f9.kept (hF1 _ f9.lt (th_off trf2 (by decide)))
      refine lv_if_ne (tgt := 35) hx hb dX6_placeLine_30 (by decide) (fun c15 => ?_) (fun c15 => ?_)
      · skip
        have ir16 : IV x13 1 1 := iv_cutL ix13 (iv_c (by decide) : IV 0 0 0) c15 (by decide)
        have ir16a := ir16.1
        have ir16b := ir16.2
        refine lv_aload_n hx hb dX6_placeLine_35 rfl (lv_at hl 1 rfl) ?_
        refine lv_iconst (v := 1) hx hb dX6_placeLine_36 (by decide) ?_
        refine lv_bipush (v := 60) hx hb dX6_placeLine_37 (by decide) ?_
        refine th_callVi (n := 2) (As := [.int 1, .int 60]) S hK hH hS (th_A.sub (by decide)) (m_X6_number l D cT T q hq a0 t0 (1) (iv_top _) (60) (iv_top _)) gm_742 gm_739 gm_741 gm_11 gm_115 (by decide +kernel) ⟨rfl, rfl, Nat.le_of_ble_eq_true rfl, Nat.le_of_ble_eq_true rfl⟩ t0 kd_2 rfl rfl hl.1 rfl (Nat.le_of_ble_eq_true rfl) dX6_placeLine_39 ⟨Nat.zero_le _, Nat.zero_le _⟩ (fun x17 H locs ix17 hH hS hF1 => ?_)
        have f18 := f14.kept (hF1 _ f14.lt (th_off trf2 (by decide)))
        refine lv_istore_n (lv' := [(2, .int x17), (1, .int x4), (0, .ref a0)]) hx hb dX6_placeLine_42 rfl hl (by decide) rfl (fun ls hl => ?_)
        refine lv_iload_n hx hb dX6_placeLine_43 rfl (lv_at hl 0 rfl) ?_
        refine lv_if_lt (tgt := 57) hx hb dX6_placeLine_44 (by decide) (fun c19 => ?_) (fun c19 => ?_)
        · skip
          have ir20 : IV x17 (-2147483648) (-1) := iv_uL ix17 (iv_c (by decide) : IV 0 0 0) (iv_lt c19) (by decide)
          have ir20a := ir20.1
          have ir20b := ir20.2
          exact J57 H locs ls  hH hS (lv_sub hl [] rfl)
        · skip
          have ir21 : IV x17 0 2147483647 := iv_vR (iv_c (by decide) : IV 0 0 0) ix17 (iv_nlt c19) (by decide)
          have ir21a := ir21.1
          have ir21b := ir21.2
          refine lv_aload_n hx hb dX6_placeLine_47 rfl (lv_at hl 2 rfl) ?_
          refine lv_sipush (v := 141) hx hb dX6_placeLine_48 (by decide) ?_
          refine th_callVi (n := 1) (As := [.int 141]) S hK hH hS (th_A.sub (by decide)) (m_X6_take l D cT T q hq a0 t0 (141) (iv_top _)) gm_750 gm_747 gm_749 gm_13 gm_115 (by decide +kernel) ⟨rfl, rfl, Nat.le_of_ble_eq_true rfl, Nat.le_of_ble_eq_true rfl⟩ t0 kd_2 rfl rfl hl.1 rfl (Nat.le_of_ble_eq_true rfl) dX6_placeLine_51 ⟨Nat.zero_le _, Nat.zero_le _⟩ (fun x22 H locs ix22 hH hS hF1 => ?_)
          have f23 := f18.kept (hF1 _ f18.lt (th_off trf2 (by decide)))
          refine lv_if_ne (tgt := 59) hx hb dX6_placeLine_54 (by decide) (fun c24 => ?_) (fun c24 => ?_)
          · skip
            have ir25 : IV x22 1 1 := iv_cutL ix22 (iv_c (by decide) : IV 0 0 0) c24 (by decide)
            have ir25a := ir25.1
            have ir25b := ir25.2
            refine lv_aload_n hx hb dX6_placeLine_59 rfl (lv_at hl 2 rfl) ?_
            refine lv_iconst (v := 0) hx hb dX6_placeLine_60 (by decide) ?_
            refine lv_bipush (v := 9) hx hb dX6_placeLine_61 (by decide) ?_
            refine th_callVi (n := 2) (As := [.int 0, .int 9]) S hK hH hS (th_A.sub (by decide)) (m_X6_number l D cT T q hq a0 t0 (0) (iv_top _) (9) (iv_top _)) gm_742 gm_739 gm_741 gm_11 gm_115 (by decide +kernel) ⟨rfl, rfl, Nat.le_of_ble_eq_true rfl, Nat.le_of_ble_eq_true rfl⟩ t0 kd_2 rfl rfl hl.1 rfl (Nat.le_of_ble_eq_true rfl) dX6_placeLine_63 ⟨Nat.zero_le _, Nat.zero_le _⟩ (fun x26 H locs ix26 hH hS hF1 => ?_)
            have f27 := f23.kept (hF1 _ f23.lt (th_off trf2 (by decide)))
            refine lv_istore_n (lv' := [(3, .int x26), (2, .int x17), (1, .int x4), (0, .ref a0)]) hx hb dX6_placeLine_66 rfl hl (by decide) rfl (fun ls hl => ?_)
            refine lv_iload_n hx hb dX6_placeLine_67 rfl (lv_at hl 0 rfl) ?_
            refine lv_if_lt (tgt := 89) hx hb dX6_placeLine_68 (by decide) (fun c28 => ?_) (fun c28 => ?_)
            · skip
              have ir29 : IV x26 (-2147483648) (-1) := iv_uL ix26 (iv_c (by decide) : IV 0 0 0) (iv_lt c28) (by decide)
              have ir29a := ir29.1
              have ir29b := ir29.2
              exact J89 H locs ls  hH hS (lv_sub hl [] rfl)
            · skip
              have ir30 : IV x26 0 2147483647 := iv_vR (iv_c (by decide) : IV 0 0 0) ix26 (iv_nlt c28) (by decide)
              have ir30a := ir30.1
              have ir30b := ir30.2
              refine lv_aload_n hx hb dX6_placeLine_71 rfl (lv_at hl 3 rfl) ?_
              refine lv_sipush (v := 146) hx hb dX6_placeLine_72 (by decide) ?_
              refine th_callVi (n := 1) (As := [.int 146]) S hK hH hS (th_A.sub (by decide)) (m_X6_take l D cT T q hq a0 t0 (146) (iv_top _)) gm_750 gm_747 gm_749 gm_13 gm_115 (by decide +kernel) ⟨rfl, rfl, Nat.le_of_ble_eq_true rfl, Nat.le_of_ble_eq_true rfl⟩ t0 kd_2 rfl rfl hl.1 rfl (Nat.le_of_ble_eq_true rfl) dX6_placeLine_75 ⟨Nat.zero_le _, Nat.zero_le _⟩ (fun x31 H locs ix31 hH hS hF1 => ?_)
              have f32 := f27.kept (hF1 _ f27.lt (th_off trf2 (by decide)))
              refine lv_if_eq (tgt := 89) hx hb dX6_placeLine_78 (by decide) (fun c33 => ?_) (fun c33 => ?_)
              · skip
                have ir34 : IV x31 0 0 := iv_eL c33 (iv_c (by decide) : IV 0 0 0)
                have ir34a := ir34.1
                have ir34b := ir34.2
                exact J89 H locs ls  hH hS (lv_sub hl [] rfl)
              · skip
                have ir35 : IV x31 1 1 := iv_cutL ix31 (iv_c (by decide) : IV 0 0 0) c33 (by decide)
                have ir35a := ir35.1
                have ir35b := ir35.2
                refine lv_aload_n hx hb dX6_placeLine_81 rfl (lv_at hl 3 rfl) ?_
                refine lv_iload_n hx hb dX6_placeLine_82 rfl (lv_at hl 2 rfl) ?_
                refine th_callVi (n := 1) (As := [.int x4]) S hK hH hS (th_A.sub (by decide)) (m_X6_mapsOfPlace l D cT T q hq a0 t0 (x4) ix4) gm_785 gm_782 gm_784 gm_18 gm_115 (by decide +kernel) ⟨rfl, rfl, Nat.le_of_ble_eq_true rfl, Nat.le_of_ble_eq_true rfl⟩ t0 kd_2 rfl rfl hl.1 rfl (Nat.le_of_ble_eq_true rfl) dX6_placeLine_83 ⟨Nat.zero_le _, Nat.zero_le _⟩ (fun x36 H locs ix36 hH hS hF1 => ?_)
                have f37 := f32.kept (hF1 _ f32.lt (th_off trf2 (by decide)))
                refine lv_if_ne (tgt := 91) hx hb dX6_placeLine_86 (by decide) (fun c38 => ?_) (fun c38 => ?_)
                · skip
                  have ir39 : IV x36 1 1 := iv_cutL ix36 (iv_c (by decide) : IV 0 0 0) c38 (by decide)
                  have ir39a := ir39.1
                  have ir39b := ir39.2
                  refine lv_aload_n hx hb dX6_placeLine_91 rfl (lv_at hl 3 rfl) ?_
                  refine th_get S hK hH inG6 t0 kd_2 rfl 1 (by decide) gm_340 rfl rfl dX6_placeLine_92 (fun v40 hv40 fv40 => ?_)
                  obtain ⟨rf41, rfl, trf41⟩ := th_V.ref hv40
                  refine th_get S hK hH inG4 trf41 kd_46 rfl 10 (by decide) gm_272 rfl rfl dX6_placeLine_95 (fun v42 hv42 fv42 => ?_)
                  obtain ⟨rf43, rfl, trf43⟩ := th_V.ref hv42
                  refine th_get S hK hH inG7 trf43 kd_10 rfl 0 (by decide) gm_229 rfl rfl dX6_placeLine_98 (fun v44 hv44 fv44 => ?_)
                  obtain ⟨rf45, rfl, trf45⟩ := th_V.ref hv44
                  refine lv_bipush (v := 15) hx hb dX6_placeLine_101 (by decide) ?_
                  refine lv_iload_n hx hb dX6_placeLine_103 rfl (lv_at hl 2 rfl) ?_
                  refine lv_iadd hx hb dX6_placeLine_104 ?_
                  refine lv_topi (fun x46 ex46 => ?_)
                  have ix46 : IV x46 15 22 := by rw [ex46]; exact iv_add (iv_c (by decide) : IV 15 15 15) ix4 (by decide)
                  refine lv_iload_n hx hb dX6_placeLine_105 rfl (lv_at hl 1 rfl) ?_
                  refine th_iast S hK hH hS ⟨29, by decide, trf45⟩ trf45 kd_29 (th_in (hi := 22) (iv_w ix46 (by decide)) (by decide)) (th_iv (iv_top _)) dX6_placeLine_106 (fun H locs hH hS hq1 => ?_)
                  have f47 := f37.kept (hq1 _ (th_ne trf2 trf45 (by decide)))
                  have f48 := fv40.kept (hq1 _ (th_ne t0 trf45 (by decide)))
                  refine lv_aload_n hx hb dX6_placeLine_107 rfl (lv_at hl 3 rfl) ?_
                  refine th_getK S hK f48 inG6 rfl (by decide) gm_340 rfl dX6_placeLine_108 ?_
                  refine th_get S hK hH inG4 trf41 kd_46 rfl 4 (by decide) gm_247 rfl rfl dX6_placeLine_111 (fun v50 hv50 fv50 => ?_)
                  obtain ⟨rf51, rfl, trf51⟩ := th_V.ref hv50
                  refine lv_iload_n hx hb dX6_placeLine_114 rfl (lv_at hl 2 rfl) ?_
                  refine lv_iload_n hx hb dX6_placeLine_115 rfl (lv_at hl 0 rfl) ?_
                  refine th_iast S hK hH hS ⟨51, by decide, trf51⟩ trf51 kd_51 (th_in (hi := 7) ix4 (by decide)) (th_iv (iv_top _)) dX6_placeLine_116 (fun H locs hH hS hq1 => ?_)
                  have f52 := f47.kept (hq1 _ (th_ne trf2 trf51 (by decide)))
                  have f53 := f48.kept (hq1 _ (th_ne t0 trf51 (by decide)))
                  refine lv_aload_n hx hb dX6_placeLine_117 rfl (lv_at hl 3 rfl) ?_
                  refine th_getK S hK f53 inG6 rfl (by decide) gm_340 rfl dX6_placeLine_118 ?_
                  refine lv_dup hx hb dX6_placeLine_121 rfl ?_
                  refine th_get S hK hH inG4 trf41 kd_46 rfl 13 (by decide) gm_285 rfl rfl dX6_placeLine_122 (fun v55 hv55 fv55 => ?_)
                  obtain ⟨x56, rfl, ix56⟩ := th_V.int hv55
                  have kx56 : IV x56 (q 5) (q 5) := ix56
                  have kx56a := kx56.1
                  have kx56b := kx56.2
                  have ix56 : IV x56 0 7 := iv_w ix56 ⟨(qok_5 hq).1, hp0⟩
                  refine lv_iconst (v := 1) hx hb dX6_placeLine_125 (by decide) ?_
                  refine lv_iadd hx hb dX6_placeLine_126 ?_
                  refine lv_topi (fun x57 ex57 => ?_)
                  have ix57 : IV x57 1 8 := by rw [ex57]; exact iv_add ix56 (iv_c (by decide) : IV 1 1 1) (by decide)
                  have ux57 : x57.toInt = x56.toInt + 1 := by rw [ex57]; have z1 := (ix56).1; have z2 := (ix56).2; have z3 : (1 : Int32).toInt = 1 := rfl; have z4 := iv_addE (x := x56) (y := 1) (by omega); omega
                  obtain ⟨n58, en58⟩ : ∃ z : Int, z = Int32.toInt x57 := ⟨_, rfl⟩
                  have hzq59 : qok (qup q 5 n58) := qup_ok5 hq (iv_z en58 (iv_w ix57 (by decide)))
                  refine th_putX (Ks2 := kd (qup q 5 n58)) S hK hH hS ⟨46, by decide, trf41⟩ inG4 tyX4 tyX4_ok nmX4 trf41 (fun b hb => hT 46 (by decide) _ _ hb trf41) kd_46 kd_46 (kd_up5 _ _) rfl 13 (by decide) gm_285 rfl rfl rfl rfl (fun i hi => match i, hi with | 0, _ => rfl | 1, _ => rfl | 2, _ => rfl | 3, _ => rfl | 4, _ => rfl | 5, _ => rfl | 6, _ => rfl | 7, _ => rfl | 8, _ => rfl | 9, _ => rfl | 10, _ => rfl | 11, _ => rfl | 12, _ => rfl | 13, h => absurd rfl h | 14, _ => rfl | 15, _ => rfl | 16, _ => rfl | 17, _ => rfl | 18, _ => rfl | _ + 19, _ => rfl) (Nat.le_of_ble_eq_true rfl) (th_selfE en58) (ty := .int) (by decide +kernel) rfl rfl dX6_placeLine_127 (fun H locs hH hS hq1 => ?_)
                  have f60 := f53.kept (hq1 _ (th_ne t0 trf41 (by decide)))
                  refine lv_iconst (v := 1) hx hb dX6_placeLine_130 (by decide) ?_
                  exact th_zretX S hK hH hS hr hlocks ⟨hzq59, by have w1 := qok_1 hzq59; have w2 := qok_2 hzq59; have w3 := qok_1 hq; have w4 := qok_2 hq; have w5 := hqr.2; simp [qup] at w1 w2 ⊢; omega⟩ rfl (iv_w (iv_c (by decide) : IV 1 1 1) (by decide)) (th_R.i (iv_w (iv_c (by decide) : IV 1 1 1) (by decide))) dX6_placeLine_131
                · skip
                  have ir61 : IV x36 0 0 := iv_eL c38 (iv_c (by decide) : IV 0 0 0)
                  have ir61a := ir61.1
                  have ir61b := ir61.2
                  exact J89 H locs ls  hH hS (lv_sub hl [] rfl)
          · skip
            have ir62 : IV x22 0 0 := iv_eL c24 (iv_c (by decide) : IV 0 0 0)
            have ir62a := ir62.1
            have ir62b := ir62.2
            exact J57 H locs ls  hH hS (lv_sub hl [] rfl)
      · skip
        have ir63 : IV x13 0 0 := iv_eL c15 (iv_c (by decide) : IV 0 0 0)
        have ir63a := ir63.1
        have ir63b := ir63.2
        exact J33 H locs ls  hH hS (lv_sub hl [] rfl)
  exact J0 s.heap [] ls hH va_S.rf hl

set_option maxRecDepth 100000 in
theorem m_X6_likesLine (l : Launch) (D : va_G) (cT : Nat → ClassId) (T : Nat → Option Nat) (q : Nat → Int) (hq : qok q) (a0 : Nat) (t0 : T a0 = some 2) : th_Met l D cT T (kd q) yX6_likesLine cX6_likesLine 5 (some .boolean) (rmk 3 66) [.ref a0] (th_R T (some (.inl (0, 1)))) [2, 46, 55] := by
  refine th_start (by decide) (Nat.le_of_ble_eq_true rfl) ?_
  intro p e s m below meth c ls S hK hH hr hlocks hnm hl
  have hx := S.1
  have hb := S.2.1
  have hl : lv_has ls 5 [(0, .ref a0)] := hl
  have J0 : ∀ (H : Heap) (locs : List Loc) (ls : Array Slot), th_H D cT T (kd q) H → va_S (th_A T [2, 46, 55]) s.heap H locs → lv_has ls 5 [(0, .ref a0)] → W p l e (rmk 3 66) s m [.ref a0].toArray below meth c H locs 0 0 (MQ below (th_Q D cT T (kd q) (th_R T (some (.inl (0, 1)))) [2, 46, 55]) [.ref a0].toArray s 0 0 (th_A T [2, 46, 55])) (F0 m 0 ls []) := by
    intro H locs ls hH hS hl
    refine lv_aload_n hx hb dX6_likesLine_0 rfl (lv_at hl 0 rfl) ?_
    refine lv_aload_n hx hb dX6_likesLine_1 rfl (lv_at hl 0 rfl) ?_
    refine th_get S hK hH inG6 t0 kd_2 rfl 1 (by decide) gm_340 rfl rfl dX6_likesLine_2 (fun v1 hv1 fv1 => ?_)
    obtain ⟨rf2, rfl, trf2⟩ := th_V.ref hv1
    refine th_get S hK hH inG4 trf2 kd_46 rfl 1 (by decide) gm_238 rfl rfl dX6_likesLine_5 (fun v3 hv3 fv3 => ?_)
    obtain ⟨rf4, rfl, trf4⟩ := th_V.ref hv3
    refine lv_aload_n hx hb dX6_likesLine_8 rfl (lv_at hl 0 rfl) ?_
    refine th_getK S hK fv1 inG6 rfl (by decide) gm_340 rfl dX6_likesLine_9 ?_
    refine th_get S hK hH inG4 trf2 kd_46 rfl 12 (by decide) gm_280 rfl rfl dX6_likesLine_12 (fun v6 hv6 fv6 => ?_)
    obtain ⟨x7, rfl, ix7⟩ := th_V.int hv6
    have ix7 : IV x7 0 4 := iv_w ix7 (qok_4 hq)
    refine th_callVi (n := 2) (As := [.ref rf4, .int x7]) S hK hH hS (th_A.sub (by decide)) (m_X6_knownName_v1 l D cT T q hq a0 t0 rf4 trf4 (x7) (iv_top _)) gm_789 gm_786 gm_788 gm_19 gm_115 (by decide +kernel) ⟨rfl, rfl, Nat.le_of_ble_eq_true rfl, Nat.le_of_ble_eq_true rfl⟩ t0 kd_2 rfl rfl hl.1 rfl (Nat.le_of_ble_eq_true rfl) dX6_likesLine_15 ⟨Nat.zero_le _, Nat.zero_le _⟩ (fun x8 H locs ix8 hH hS hF1 => ?_)
    refine lv_istore_n (lv' := [(1, .int x8), (0, .ref a0)]) hx hb dX6_likesLine_18 rfl hl (by decide) rfl (fun ls hl => ?_)
    refine lv_iload_n hx hb dX6_likesLine_19 rfl (lv_at hl 0 rfl) ?_
    refine lv_if_ge (tgt := 25) hx hb dX6_likesLine_20 (by decide) (fun c9 => ?_) (fun c9 => ?_)
    · skip
      have ir10 : IV x8 0 3 := iv_vR (iv_c (by decide) : IV 0 0 0) ix8 (iv_le c9) (by decide)
      refine lv_aload_n hx hb dX6_likesLine_25 rfl (lv_at hl 1 rfl) ?_
      refine lv_dup hx hb dX6_likesLine_26 rfl ?_
      refine th_get S hK hH inG6 t0 kd_2 rfl 2 (by decide) gm_342 rfl rfl dX6_likesLine_27 (fun v11 hv11 fv11 => ?_)
      obtain ⟨x12, rfl, ix12⟩ := th_V.int hv11
      refine lv_iconst (v := 1) hx hb dX6_likesLine_30 (by decide) ?_
      refine lv_iadd hx hb dX6_likesLine_31 ?_
      refine lv_topi (fun x13 ex13 => ?_)
      have ix13 := iv_top x13
      refine th_put S hK hH hS ⟨2, by decide, t0⟩ inG6 tyX6 tyX6_ok nmX6 t0 kd_2 rfl 2 (by decide) gm_342 rfl rfl rfl rfl (th_iv ix13) (fun _ _ => trivial) (ty := .int) (by decide +kernel) rfl rfl dX6_likesLine_32 (fun H locs hH hS hq1 hp1 => ?_)
      have f14 := hp1.1
      refine lv_aload_n hx hb dX6_likesLine_35 rfl (lv_at hl 1 rfl) ?_
      refine lv_aload_n hx hb dX6_likesLine_36 rfl (lv_at hl 1 rfl) ?_
      refine th_get S hK hH inG6 t0 kd_2 rfl 1 (by decide) gm_340 rfl rfl dX6_likesLine_37 (fun v15 hv15 fv15 => ?_)
      obtain ⟨rf16, rfl, trf16⟩ := th_V.ref hv15
      refine th_get S hK hH inG4 trf16 kd_46 rfl 0 (by decide) gm_236 rfl rfl dX6_likesLine_40 (fun v17 hv17 fv17 => ?_)
      obtain ⟨rf18, rfl, trf18⟩ := th_V.ref hv17
      refine lv_aload_n hx hb dX6_likesLine_43 rfl (lv_at hl 1 rfl) ?_
      refine th_getK S hK fv15 inG6 rfl (by decide) gm_340 rfl dX6_likesLine_44 ?_
      refine th_get S hK hH inG4 trf16 kd_46 rfl 11 (by decide) gm_275 rfl rfl dX6_likesLine_47 (fun v20 hv20 fv20 => ?_)
      obtain ⟨x21, rfl, ix21⟩ := th_V.int hv20
      have ix21 : IV x21 0 3 := iv_w ix21 (qok_3 hq)
      refine th_callVi (n := 2) (As := [.ref rf18, .int x21]) S hK hH hS (th_A.sub (by decide)) (m_X6_knownName_v0 l D cT T q hq a0 t0 rf18 trf18 (x21) (iv_top _)) gm_789 gm_786 gm_788 gm_19 gm_115 (by decide +kernel) ⟨rfl, rfl, Nat.le_of_ble_eq_true rfl, Nat.le_of_ble_eq_true rfl⟩ t0 kd_2 rfl rfl hl.1 rfl (Nat.le_of_ble_eq_true rfl) dX6_likesLine_50 ⟨Nat.zero_le _, Nat.zero_le _⟩ (fun x22 H locs ix22 hH hS hF1 => ?_)
      refine lv_istore_n (lv' := [(2, .int x22), (1, .int x8), (0, .ref a0)]) hx hb dX6_likesLine_53 rfl hl (by decide) rfl (fun ls hl => ?_)
      refine lv_iload_n hx hb dX6_likesLine_54 rfl (lv_at hl 0 rfl) ?_
      refine lv_if_ge (tgt := 60) hx hb dX6_likesLine_55 (by decide) (fun c23 => ?_) (fun c23 => ?_)
      · skip
        have ir24 : IV x22 0 2 := iv_vR (iv_c (by decide) : IV 0 0 0) ix22 (iv_le c23) (by decide)
        refine lv_iload_n hx hb dX6_likesLine_60 rfl (lv_at hl 1 rfl) ?_
        refine lv_iconst (v := 3) hx hb dX6_likesLine_61 (by decide) ?_
        refine lv_imul hx hb dX6_likesLine_62 ?_
        refine lv_topi (fun x25 ex25 => ?_)
        have ix25 : IV x25 0 9 := by rw [ex25]; exact iv_mul ir10 (iv_c (by decide) : IV 3 3 3) (by decide) (by decide)
        refine lv_iload_n hx hb dX6_likesLine_63 rfl (lv_at hl 0 rfl) ?_
        refine lv_iadd hx hb dX6_likesLine_64 ?_
        refine lv_topi (fun x26 ex26 => ?_)
        have ix26 : IV x26 0 11 := by rw [ex26]; exact iv_add ix25 ir24 (by decide)
        refine lv_istore_n (lv' := [(3, .int x26), (2, .int x22), (1, .int x8), (0, .ref a0)]) hx hb dX6_likesLine_65 rfl hl (by decide) rfl (fun ls hl => ?_)
        refine lv_aload_n hx hb dX6_likesLine_66 rfl (lv_at hl 3 rfl) ?_
        refine th_get S hK hH inG6 t0 kd_2 rfl 1 (by decide) gm_340 rfl rfl dX6_likesLine_67 (fun v27 hv27 fv27 => ?_)
        obtain ⟨rf28, rfl, trf28⟩ := th_V.ref hv27
        refine th_get S hK hH inG4 trf28 kd_46 rfl 15 (by decide) gm_292 rfl rfl dX6_likesLine_70 (fun v29 hv29 fv29 => ?_)
        obtain ⟨x30, rfl, ix30⟩ := th_V.int hv29
        refine lv_iload_n hx hb dX6_likesLine_73 rfl (lv_at hl 0 rfl) ?_
        refine lv_ishr hx hb dX6_likesLine_74 ?_
        refine lv_topi (fun x31 ex31 => ?_)
        have ix31 := iv_top x31
        refine lv_iconst (v := 1) hx hb dX6_likesLine_75 (by decide) ?_
        refine lv_iand hx hb dX6_likesLine_76 ?_
        refine lv_topi (fun x32 ex32 => ?_)
        have ix32 : IV x32 0 1 := by rw [ex32]; exact iv_and (h2 := 1) (iv_w (iv_c (by decide) : IV 1 1 1) (by decide)) (by decide)
        refine lv_if_eq (tgt := 86) hx hb dX6_likesLine_77 (by decide) (fun c33 => ?_) (fun c33 => ?_)
        · skip
          have ir34 : IV x32 0 0 := iv_eL c33 (iv_c (by decide) : IV 0 0 0)
          refine lv_aload_n hx hb dX6_likesLine_86 rfl (lv_at hl 3 rfl) ?_
          refine lv_dup hx hb dX6_likesLine_87 rfl ?_
          refine th_get S hK hH inG6 t0 kd_2 rfl 2 (by decide) gm_342 rfl rfl dX6_likesLine_88 (fun v35 hv35 fv35 => ?_)
          obtain ⟨x36, rfl, ix36⟩ := th_V.int hv35
          refine lv_iconst (v := 1) hx hb dX6_likesLine_91 (by decide) ?_
          refine lv_iadd hx hb dX6_likesLine_92 ?_
          refine lv_topi (fun x37 ex37 => ?_)
          have ix37 := iv_top x37
          refine th_put S hK hH hS ⟨2, by decide, t0⟩ inG6 tyX6 tyX6_ok nmX6 t0 kd_2 rfl 2 (by decide) gm_342 rfl rfl rfl rfl (th_iv ix37) (fun _ _ => trivial) (ty := .int) (by decide +kernel) rfl rfl dX6_likesLine_93 (fun H locs hH hS hq1 hp1 => ?_)
          have f38 := hp1.2 1 _ (by decide) (by decide) fv27
          have f39 := fv29.kept (hq1 _ (th_ne trf28 t0 (by decide)))
          have f40 := hp1.1
          refine lv_aload_n hx hb dX6_likesLine_96 rfl (lv_at hl 3 rfl) ?_
          refine lv_iconst (v := 0) hx hb dX6_likesLine_97 (by decide) ?_
          refine lv_bipush (v := 9) hx hb dX6_likesLine_98 (by decide) ?_
          refine th_callVi (n := 2) (As := [.int 0, .int 9]) S hK hH hS (th_A.sub (by decide)) (m_X6_number l D cT T q hq a0 t0 (0) (iv_top _) (9) (iv_top _)) gm_742 gm_739 gm_741 gm_11 gm_115 (by decide +kernel) ⟨rfl, rfl, Nat.le_of_ble_eq_true rfl, Nat.le_of_ble_eq_true rfl⟩ t0 kd_2 rfl rfl hl.1 rfl (Nat.le_of_ble_eq_true rfl) dX6_likesLine_100 ⟨Nat.zero_le _, Nat.zero_le _⟩ (fun x41 H locs ix41 hH hS hF1 => ?_)
          have f42 := f39.kept (hF1 _ f39.lt (th_off trf28 (by decide)))
          refine lv_istore (lv' := [(4, .int x41), (3, .int x26), (2, .int x22), (1, .int x8), (0, .ref a0)]) hx hb dX6_likesLine_103 hl (by decide) rfl (fun ls hl => ?_)
          refine lv_iload hx hb dX6_likesLine_105 (lv_at hl 0 rfl) ?_
          refine lv_if_ge (tgt := 112) hx hb dX6_likesLine_107 (by decide) (fun c43 => ?_) (fun c43 => ?_)
          · skip
            have ir44 : IV x41 0 2147483647 := iv_vR (iv_c (by decide) : IV 0 0 0) ix41 (iv_le c43) (by decide)
            refine lv_aload_n hx hb dX6_likesLine_112 rfl (lv_at hl 4 rfl) ?_
            refine th_get S hK hH inG6 t0 kd_2 rfl 1 (by decide) gm_340 rfl rfl dX6_likesLine_113 (fun v45 hv45 fv45 => ?_)
            obtain ⟨rf46, rfl, trf46⟩ := th_V.ref hv45
            refine lv_dup hx hb dX6_likesLine_116 rfl ?_
            refine th_get S hK hH inG4 trf46 kd_46 rfl 15 (by decide) gm_292 rfl rfl dX6_likesLine_117 (fun v47 hv47 fv47 => ?_)
            obtain ⟨x48, rfl, ix48⟩ := th_V.int hv47
            refine lv_iconst (v := 1) hx hb dX6_likesLine_120 (by decide) ?_
            refine lv_iload_n hx hb dX6_likesLine_121 rfl (lv_at hl 1 rfl) ?_
            refine lv_ishl hx hb dX6_likesLine_122 ?_
            refine lv_topi (fun x49 ex49 => ?_)
            have ix49 := iv_top x49
            refine lv_ior hx hb dX6_likesLine_123 ?_
            refine lv_topi (fun x50 ex50 => ?_)
            have ix50 := iv_top x50
            refine th_put S hK hH hS ⟨46, by decide, trf46⟩ inG4 tyX4 tyX4_ok nmX4 trf46 kd_46 rfl 15 (by decide) gm_292 rfl rfl rfl rfl (th_iv ix50) (fun _ _ => trivial) (ty := .int) (by decide +kernel) rfl rfl dX6_likesLine_124 (fun H locs hH hS hq1 hp1 => ?_)
            have f51 := fv45.kept (hq1 _ (th_ne t0 trf46 (by decide)))
            have f52 := hp1.1
            refine lv_aload_n hx hb dX6_likesLine_127 rfl (lv_at hl 4 rfl) ?_
            refine th_getK S hK f51 inG6 rfl (by decide) gm_340 rfl dX6_likesLine_128 ?_
            refine th_get S hK hH inG4 trf46 kd_46 rfl 8 (by decide) gm_265 rfl rfl dX6_likesLine_131 (fun v54 hv54 fv54 => ?_)
            obtain ⟨rf55, rfl, trf55⟩ := th_V.ref hv54
            refine lv_iload_n hx hb dX6_likesLine_134 rfl (lv_at hl 1 rfl) ?_
            refine lv_iload hx hb dX6_likesLine_135 (lv_at hl 0 rfl) ?_
            refine th_iast S hK hH hS ⟨55, by decide, trf55⟩ trf55 kd_55 (th_in (hi := 11) ix26 (by decide)) (th_iv (iv_top _)) dX6_likesLine_137 (fun H locs hH hS hq1 => ?_)
            have f56 := f51.kept (hq1 _ (th_ne t0 trf55 (by decide)))
            have f57 := f52.kept (hq1 _ (th_ne trf46 trf55 (by decide)))
            refine lv_iconst (v := 1) hx hb dX6_likesLine_138 (by decide) ?_
            exact th_zret S hK hH hS hr hlocks (iv_w (iv_c (by decide) : IV 1 1 1) (by decide)) (th_R.i (iv_w (iv_c (by decide) : IV 1 1 1) (by decide))) dX6_likesLine_139
          · skip
            have ir58 : IV x41 (-2147483648) (-1) := iv_uL ix41 (iv_c (by decide) : IV 0 0 0) (iv_nle c43) (by decide)
            refine lv_iconst (v := 0) hx hb dX6_likesLine_110 (by decide) ?_
            exact th_zret S hK hH hS hr hlocks (iv_w (iv_c (by decide) : IV 0 0 0) (by decide)) (th_R.i (iv_w (iv_c (by decide) : IV 0 0 0) (by decide))) dX6_likesLine_111
        · skip
          have ir59 : IV x32 1 1 := iv_cutL ix32 (iv_c (by decide) : IV 0 0 0) c33 (by decide)
          refine lv_aload_n hx hb dX6_likesLine_80 rfl (lv_at hl 3 rfl) ?_
          refine lv_iconst (v := 3) hx hb dX6_likesLine_81 (by decide) ?_
          refine th_callVi (n := 1) (As := [.int 3]) S hK hH hS (th_A.sub (by decide)) (m_X6_blame l D cT T q hq a0 t0 (3) (iv_top _)) gm_722 gm_719 gm_721 gm_6 gm_115 (by decide +kernel) ⟨rfl, rfl, Nat.le_of_ble_eq_true rfl, Nat.le_of_ble_eq_true rfl⟩ t0 kd_2 rfl rfl hl.1 rfl (Nat.le_of_ble_eq_true rfl) dX6_likesLine_82 ⟨Nat.zero_le _, Nat.zero_le _⟩ (fun x60 H locs ix60 hH hS hF1 => ?_)
          have f61 := fv29.kept (hF1 _ fv29.lt (th_off trf28 (by decide)))
          exact th_zret S hK hH hS hr hlocks (iv_w ix60 (by decide)) (th_R.i (iv_w ix60 (by decide))) dX6_likesLine_85
      · skip
        have ir62 : IV x22 (-1) (-1) := iv_uL ix22 (iv_c (by decide) : IV 0 0 0) (iv_nle c23) (by decide)
        refine lv_iconst (v := 0) hx hb dX6_likesLine_58 (by decide) ?_
        exact th_zret S hK hH hS hr hlocks (iv_w (iv_c (by decide) : IV 0 0 0) (by decide)) (th_R.i (iv_w (iv_c (by decide) : IV 0 0 0) (by decide))) dX6_likesLine_59
    · skip
      have ir63 : IV x8 (-1) (-1) := iv_uL ix8 (iv_c (by decide) : IV 0 0 0) (iv_nle c9) (by decide)
      refine lv_iconst (v := 0) hx hb dX6_likesLine_23 (by decide) ?_
      exact th_zret S hK hH hS hr hlocks (iv_w (iv_c (by decide) : IV 0 0 0) (by decide)) (th_R.i (iv_w (iv_c (by decide) : IV 0 0 0) (by decide))) dX6_likesLine_24
  exact J0 s.heap [] ls hH va_S.rf hl

set_option maxRecDepth 100000 in
theorem m_X6_borderLine (l : Launch) (D : va_G) (cT : Nat → ClassId) (T : Nat → Option Nat) (q : Nat → Int) (hq : qok q) (a0 : Nat) (t0 : T a0 = some 2) : th_Met l D cT T (kd q) yX6_borderLine cX6_borderLine 3 (some .boolean) (rmk 3 66) [.ref a0] (th_R T (some (.inl (0, 1)))) [2, 46, 54] := by
  refine th_start (by decide) (Nat.le_of_ble_eq_true rfl) ?_
  intro p e s m below meth c ls S hK hH hr hlocks hnm hl
  have hx := S.1
  have hb := S.2.1
  have hl : lv_has ls 3 [(0, .ref a0)] := hl
  have J81 : ∀ (H : Heap) (locs : List Loc) (ls : Array Slot), th_H D cT T (kd q) H → va_S (th_A T [2, 46, 54]) s.heap H locs → lv_has ls 3 [(0, .ref a0)] → W p l e (rmk 3 66) s m [.ref a0].toArray below meth c H locs 0 0 (MQ below (th_Q D cT T (kd q) (th_R T (some (.inl (0, 1)))) [2, 46, 54]) [.ref a0].toArray s 0 0 (th_A T [2, 46, 54])) (F0 m 81 ls []) := by
    intro H locs ls hH hS hl
    refine lv_aload_n hx hb dX6_borderLine_81 rfl (lv_at hl 0 rfl) ?_
    refine lv_iconst (v := 3) hx hb dX6_borderLine_82 (by decide) ?_
    refine th_callVi (n := 1) (As := [.int 3]) S hK hH hS (th_A.sub (by decide)) (m_X6_blame l D cT T q hq a0 t0 (3) (iv_top _)) gm_722 gm_719 gm_721 gm_6 gm_115 (by decide +kernel) ⟨rfl, rfl, Nat.le_of_ble_eq_true rfl, Nat.le_of_ble_eq_true rfl⟩ t0 kd_2 rfl rfl hl.1 rfl (Nat.le_of_ble_eq_true rfl) dX6_borderLine_83 ⟨Nat.zero_le _, Nat.zero_le _⟩ (fun x1 H locs ix1 hH hS hF1 => ?_)
    exact th_zret S hK hH hS hr hlocks (iv_w ix1 (by decide)) (th_R.i (iv_w ix1 (by decide))) dX6_borderLine_86
  have J0 : ∀ (H : Heap) (locs : List Loc) (ls : Array Slot), th_H D cT T (kd q) H → va_S (th_A T [2, 46, 54]) s.heap H locs → lv_has ls 3 [(0, .ref a0)] → W p l e (rmk 3 66) s m [.ref a0].toArray below meth c H locs 0 0 (MQ below (th_Q D cT T (kd q) (th_R T (some (.inl (0, 1)))) [2, 46, 54]) [.ref a0].toArray s 0 0 (th_A T [2, 46, 54])) (F0 m 0 ls []) := by
    intro H locs ls hH hS hl
    refine lv_aload_n hx hb dX6_borderLine_0 rfl (lv_at hl 0 rfl) ?_
    refine lv_aload_n hx hb dX6_borderLine_1 rfl (lv_at hl 0 rfl) ?_
    refine th_get S hK hH inG6 t0 kd_2 rfl 1 (by decide) gm_340 rfl rfl dX6_borderLine_2 (fun v2 hv2 fv2 => ?_)
    obtain ⟨rf3, rfl, trf3⟩ := th_V.ref hv2
    refine th_get S hK hH inG4 trf3 kd_46 rfl 1 (by decide) gm_238 rfl rfl dX6_borderLine_5 (fun v4 hv4 fv4 => ?_)
    obtain ⟨rf5, rfl, trf5⟩ := th_V.ref hv4
    refine lv_aload_n hx hb dX6_borderLine_8 rfl (lv_at hl 0 rfl) ?_
    refine th_getK S hK fv2 inG6 rfl (by decide) gm_340 rfl dX6_borderLine_9 ?_
    refine th_get S hK hH inG4 trf3 kd_46 rfl 12 (by decide) gm_280 rfl rfl dX6_borderLine_12 (fun v7 hv7 fv7 => ?_)
    obtain ⟨x8, rfl, ix8⟩ := th_V.int hv7
    have ix8 : IV x8 0 4 := iv_w ix8 (qok_4 hq)
    refine th_callVi (n := 2) (As := [.ref rf5, .int x8]) S hK hH hS (th_A.sub (by decide)) (m_X6_knownName_v1 l D cT T q hq a0 t0 rf5 trf5 (x8) (iv_top _)) gm_789 gm_786 gm_788 gm_19 gm_115 (by decide +kernel) ⟨rfl, rfl, Nat.le_of_ble_eq_true rfl, Nat.le_of_ble_eq_true rfl⟩ t0 kd_2 rfl rfl hl.1 rfl (Nat.le_of_ble_eq_true rfl) dX6_borderLine_15 ⟨Nat.zero_le _, Nat.zero_le _⟩ (fun x9 H locs ix9 hH hS hF1 => ?_)
    have f10 := fv4.kept (hF1 _ fv4.lt (th_off trf3 (by decide)))
    have f11 := fv7.kept (hF1 _ fv7.lt (th_off trf3 (by decide)))
    refine lv_istore_n (lv' := [(1, .int x9), (0, .ref a0)]) hx hb dX6_borderLine_18 rfl hl (by decide) rfl (fun ls hl => ?_)
    refine lv_iload_n hx hb dX6_borderLine_19 rfl (lv_at hl 0 rfl) ?_
    refine lv_if_ge (tgt := 25) hx hb dX6_borderLine_20 (by decide) (fun c12 => ?_) (fun c12 => ?_)
    · skip
      have ir13 : IV x9 0 3 := iv_vR (iv_c (by decide) : IV 0 0 0) ix9 (iv_le c12) (by decide)
      refine lv_aload_n hx hb dX6_borderLine_25 rfl (lv_at hl 1 rfl) ?_
      refine lv_dup hx hb dX6_borderLine_26 rfl ?_
      refine th_get S hK hH inG6 t0 kd_2 rfl 2 (by decide) gm_342 rfl rfl dX6_borderLine_27 (fun v14 hv14 fv14 => ?_)
      obtain ⟨x15, rfl, ix15⟩ := th_V.int hv14
      refine lv_iconst (v := 1) hx hb dX6_borderLine_30 (by decide) ?_
      refine lv_iadd hx hb dX6_borderLine_31 ?_
      refine lv_topi (fun x16 ex16 => ?_)
      have ix16 := iv_top x16
      refine th_put S hK hH hS ⟨2, by decide, t0⟩ inG6 tyX6 tyX6_ok nmX6 t0 kd_2 rfl 2 (by decide) gm_342 rfl rfl rfl rfl (th_iv ix16) (fun _ _ => trivial) (ty := .int) (by decide +kernel) rfl rfl dX6_borderLine_32 (fun H locs hH hS hq1 hp1 => ?_)
      have f17 := f10.kept (hq1 _ (th_ne trf3 t0 (by decide)))
      have f18 := f11.kept (hq1 _ (th_ne trf3 t0 (by decide)))
      have f19 := hp1.1
      refine lv_aload_n hx hb dX6_borderLine_35 rfl (lv_at hl 1 rfl) ?_
      refine lv_aload_n hx hb dX6_borderLine_36 rfl (lv_at hl 1 rfl) ?_
      refine th_get S hK hH inG6 t0 kd_2 rfl 1 (by decide) gm_340 rfl rfl dX6_borderLine_37 (fun v20 hv20 fv20 => ?_)
      obtain ⟨rf21, rfl, trf21⟩ := th_V.ref hv20
      refine th_get S hK hH inG4 trf21 kd_46 rfl 1 (by decide) gm_238 rfl rfl dX6_borderLine_40 (fun v22 hv22 fv22 => ?_)
      obtain ⟨rf23, rfl, trf23⟩ := th_V.ref hv22
      refine lv_aload_n hx hb dX6_borderLine_43 rfl (lv_at hl 1 rfl) ?_
      refine th_getK S hK fv20 inG6 rfl (by decide) gm_340 rfl dX6_borderLine_44 ?_
      refine th_get S hK hH inG4 trf21 kd_46 rfl 12 (by decide) gm_280 rfl rfl dX6_borderLine_47 (fun v25 hv25 fv25 => ?_)
      obtain ⟨x26, rfl, ix26⟩ := th_V.int hv25
      have ix26 : IV x26 0 4 := iv_w ix26 (qok_4 hq)
      refine th_callVi (n := 2) (As := [.ref rf23, .int x26]) S hK hH hS (th_A.sub (by decide)) (m_X6_knownName_v1 l D cT T q hq a0 t0 rf23 trf23 (x26) (iv_top _)) gm_789 gm_786 gm_788 gm_19 gm_115 (by decide +kernel) ⟨rfl, rfl, Nat.le_of_ble_eq_true rfl, Nat.le_of_ble_eq_true rfl⟩ t0 kd_2 rfl rfl hl.1 rfl (Nat.le_of_ble_eq_true rfl) dX6_borderLine_50 ⟨Nat.zero_le _, Nat.zero_le _⟩ (fun x27 H locs ix27 hH hS hF1 => ?_)
      have f28 := f17.kept (hF1 _ f17.lt (th_off trf3 (by decide)))
      have f29 := f18.kept (hF1 _ f18.lt (th_off trf3 (by decide)))
      have f30 := fv22.kept (hF1 _ fv22.lt (th_off trf21 (by decide)))
      have f31 := fv25.kept (hF1 _ fv25.lt (th_off trf21 (by decide)))
      refine lv_istore_n (lv' := [(2, .int x27), (1, .int x9), (0, .ref a0)]) hx hb dX6_borderLine_53 rfl hl (by decide) rfl (fun ls hl => ?_)
      refine lv_iload_n hx hb dX6_borderLine_54 rfl (lv_at hl 0 rfl) ?_
      refine lv_if_ge (tgt := 60) hx hb dX6_borderLine_55 (by decide) (fun c32 => ?_) (fun c32 => ?_)
      · skip
        have ir33 : IV x27 0 3 := iv_vR (iv_c (by decide) : IV 0 0 0) ix27 (iv_le c32) (by decide)
        refine lv_iload_n hx hb dX6_borderLine_60 rfl (lv_at hl 1 rfl) ?_
        refine lv_iload_n hx hb dX6_borderLine_61 rfl (lv_at hl 0 rfl) ?_
        refine lv_icmp_eq (tgt := 81) hx hb dX6_borderLine_62 (by decide) (fun c34 => ?_) (fun c34 => ?_)
        · skip
          exact J81 H locs ls  hH hS (lv_sub hl [2] rfl)
        · skip
          refine lv_aload_n hx hb dX6_borderLine_65 rfl (lv_at hl 2 rfl) ?_
          refine th_get S hK hH inG6 t0 kd_2 rfl 1 (by decide) gm_340 rfl rfl dX6_borderLine_66 (fun v35 hv35 fv35 => ?_)
          obtain ⟨rf36, rfl, trf36⟩ := th_V.ref hv35
          refine th_get S hK hH inG4 trf36 kd_46 rfl 7 (by decide) gm_260 rfl rfl dX6_borderLine_69 (fun v37 hv37 fv37 => ?_)
          obtain ⟨rf38, rfl, trf38⟩ := th_V.ref hv37
          refine lv_iload_n hx hb dX6_borderLine_72 rfl (lv_at hl 1 rfl) ?_
          refine th_iald S hK hH trf38 kd_54 (th_in (hi := 3) ir13 (by decide)) dX6_borderLine_73 (fun v39 hv39 => ?_)
          obtain ⟨x40, rfl, ix40⟩ := th_V.int hv39
          refine lv_iload_n hx hb dX6_borderLine_74 rfl (lv_at hl 0 rfl) ?_
          refine lv_ishr hx hb dX6_borderLine_75 ?_
          refine lv_topi (fun x41 ex41 => ?_)
          have ix41 := iv_top x41
          refine lv_iconst (v := 1) hx hb dX6_borderLine_76 (by decide) ?_
          refine lv_iand hx hb dX6_borderLine_77 ?_
          refine lv_topi (fun x42 ex42 => ?_)
          have ix42 : IV x42 0 1 := by rw [ex42]; exact iv_and (h2 := 1) (iv_w (iv_c (by decide) : IV 1 1 1) (by decide)) (by decide)
          refine lv_if_eq (tgt := 87) hx hb dX6_borderLine_78 (by decide) (fun c43 => ?_) (fun c43 => ?_)
          · skip
            have ir44 : IV x42 0 0 := iv_eL c43 (iv_c (by decide) : IV 0 0 0)
            refine lv_aload_n hx hb dX6_borderLine_87 rfl (lv_at hl 2 rfl) ?_
            refine lv_dup hx hb dX6_borderLine_88 rfl ?_
            refine th_get S hK hH inG6 t0 kd_2 rfl 2 (by decide) gm_342 rfl rfl dX6_borderLine_89 (fun v45 hv45 fv45 => ?_)
            obtain ⟨x46, rfl, ix46⟩ := th_V.int hv45
            refine lv_iconst (v := 1) hx hb dX6_borderLine_92 (by decide) ?_
            refine lv_iadd hx hb dX6_borderLine_93 ?_
            refine lv_topi (fun x47 ex47 => ?_)
            have ix47 := iv_top x47
            refine th_put S hK hH hS ⟨2, by decide, t0⟩ inG6 tyX6 tyX6_ok nmX6 t0 kd_2 rfl 2 (by decide) gm_342 rfl rfl rfl rfl (th_iv ix47) (fun _ _ => trivial) (ty := .int) (by decide +kernel) rfl rfl dX6_borderLine_94 (fun H locs hH hS hq1 hp1 => ?_)
            have f48 := f28.kept (hq1 _ (th_ne trf3 t0 (by decide)))
            have f49 := f29.kept (hq1 _ (th_ne trf3 t0 (by decide)))
            have f50 := f30.kept (hq1 _ (th_ne trf21 t0 (by decide)))
            have f51 := f31.kept (hq1 _ (th_ne trf21 t0 (by decide)))
            have f52 := hp1.2 1 _ (by decide) (by decide) fv35
            have f53 := fv37.kept (hq1 _ (th_ne trf36 t0 (by decide)))
            have f54 := hp1.1
            refine lv_aload_n hx hb dX6_borderLine_97 rfl (lv_at hl 2 rfl) ?_
            refine th_getK S hK f52 inG6 rfl (by decide) gm_340 rfl dX6_borderLine_98 ?_
            refine th_getK S hK f53 inG4 rfl (by decide) gm_260 rfl dX6_borderLine_101 ?_
            refine lv_iload_n hx hb dX6_borderLine_104 rfl (lv_at hl 1 rfl) ?_
            refine lv_dup2_11 hx hb dX6_borderLine_105 rfl rfl ?_
            refine th_iald S hK hH trf38 kd_54 (th_in (hi := 3) ir13 (by decide)) dX6_borderLine_106 (fun v57 hv57 => ?_)
            obtain ⟨x58, rfl, ix58⟩ := th_V.int hv57
            refine lv_iconst (v := 1) hx hb dX6_borderLine_107 (by decide) ?_
            refine lv_iload_n hx hb dX6_borderLine_108 rfl (lv_at hl 0 rfl) ?_
            refine lv_ishl hx hb dX6_borderLine_109 ?_
            refine lv_topi (fun x59 ex59 => ?_)
            have ix59 := iv_top x59
            refine lv_ior hx hb dX6_borderLine_110 ?_
            refine lv_topi (fun x60 ex60 => ?_)
            have ix60 := iv_top x60
            refine th_iast S hK hH hS ⟨54, by decide, trf38⟩ trf38 kd_54 (th_in (hi := 3) ir13 (by decide)) (th_iv ix60) dX6_borderLine_111 (fun H locs hH hS hq1 => ?_)
            have f61 := f48.kept (hq1 _ (th_ne trf3 trf38 (by decide)))
            have f62 := f49.kept (hq1 _ (th_ne trf3 trf38 (by decide)))
            have f63 := f50.kept (hq1 _ (th_ne trf21 trf38 (by decide)))
            have f64 := f51.kept (hq1 _ (th_ne trf21 trf38 (by decide)))
            have f65 := f52.kept (hq1 _ (th_ne t0 trf38 (by decide)))
            have f66 := f53.kept (hq1 _ (th_ne trf36 trf38 (by decide)))
            have f67 := f54.kept (hq1 _ (th_ne t0 trf38 (by decide)))
            refine lv_aload_n hx hb dX6_borderLine_112 rfl (lv_at hl 2 rfl) ?_
            refine th_getK S hK f65 inG6 rfl (by decide) gm_340 rfl dX6_borderLine_113 ?_
            refine th_getK S hK f66 inG4 rfl (by decide) gm_260 rfl dX6_borderLine_116 ?_
            refine lv_iload_n hx hb dX6_borderLine_119 rfl (lv_at hl 0 rfl) ?_
            refine lv_dup2_11 hx hb dX6_borderLine_120 rfl rfl ?_
            refine th_iald S hK hH trf38 kd_54 (th_in (hi := 3) ir33 (by decide)) dX6_borderLine_121 (fun v70 hv70 => ?_)
            obtain ⟨x71, rfl, ix71⟩ := th_V.int hv70
            refine lv_iconst (v := 1) hx hb dX6_borderLine_122 (by decide) ?_
            refine lv_iload_n hx hb dX6_borderLine_123 rfl (lv_at hl 1 rfl) ?_
            refine lv_ishl hx hb dX6_borderLine_124 ?_
            refine lv_topi (fun x72 ex72 => ?_)
            have ix72 := iv_top x72
            refine lv_ior hx hb dX6_borderLine_125 ?_
            refine lv_topi (fun x73 ex73 => ?_)
            have ix73 := iv_top x73
            refine th_iast S hK hH hS ⟨54, by decide, trf38⟩ trf38 kd_54 (th_in (hi := 3) ir33 (by decide)) (th_iv ix73) dX6_borderLine_126 (fun H locs hH hS hq1 => ?_)
            have f74 := f61.kept (hq1 _ (th_ne trf3 trf38 (by decide)))
            have f75 := f62.kept (hq1 _ (th_ne trf3 trf38 (by decide)))
            have f76 := f63.kept (hq1 _ (th_ne trf21 trf38 (by decide)))
            have f77 := f64.kept (hq1 _ (th_ne trf21 trf38 (by decide)))
            have f78 := f65.kept (hq1 _ (th_ne t0 trf38 (by decide)))
            have f79 := f66.kept (hq1 _ (th_ne trf36 trf38 (by decide)))
            have f80 := f67.kept (hq1 _ (th_ne t0 trf38 (by decide)))
            refine lv_aload_n hx hb dX6_borderLine_127 rfl (lv_at hl 2 rfl) ?_
            refine th_getK S hK f78 inG6 rfl (by decide) gm_340 rfl dX6_borderLine_128 ?_
            refine lv_dup hx hb dX6_borderLine_131 rfl ?_
            refine th_get S hK hH inG4 trf36 kd_46 rfl 14 (by decide) gm_289 rfl rfl dX6_borderLine_132 (fun v82 hv82 fv82 => ?_)
            obtain ⟨x83, rfl, ix83⟩ := th_V.int hv82
            refine lv_iconst (v := 1) hx hb dX6_borderLine_135 (by decide) ?_
            refine lv_iadd hx hb dX6_borderLine_136 ?_
            refine lv_topi (fun x84 ex84 => ?_)
            have ix84 := iv_top x84
            refine th_put S hK hH hS ⟨46, by decide, trf36⟩ inG4 tyX4 tyX4_ok nmX4 trf36 kd_46 rfl 14 (by decide) gm_289 rfl rfl rfl rfl (th_iv ix84) (fun _ _ => trivial) (ty := .int) (by decide +kernel) rfl rfl dX6_borderLine_137 (fun H locs hH hS hq1 hp1 => ?_)
            have f85 := f78.kept (hq1 _ (th_ne t0 trf36 (by decide)))
            have f86 := hp1.2 7 _ (by decide) (by decide) f79
            have f87 := f80.kept (hq1 _ (th_ne t0 trf36 (by decide)))
            have f88 := hp1.1
            refine lv_iconst (v := 1) hx hb dX6_borderLine_140 (by decide) ?_
            exact th_zret S hK hH hS hr hlocks (iv_w (iv_c (by decide) : IV 1 1 1) (by decide)) (th_R.i (iv_w (iv_c (by decide) : IV 1 1 1) (by decide))) dX6_borderLine_141
          · skip
            have ir89 : IV x42 1 1 := iv_cutL ix42 (iv_c (by decide) : IV 0 0 0) c43 (by decide)
            exact J81 H locs ls  hH hS (lv_sub hl [2] rfl)
      · skip
        have ir90 : IV x27 (-1) (-1) := iv_uL ix27 (iv_c (by decide) : IV 0 0 0) (iv_nle c32) (by decide)
        refine lv_iconst (v := 0) hx hb dX6_borderLine_58 (by decide) ?_
        exact th_zret S hK hH hS hr hlocks (iv_w (iv_c (by decide) : IV 0 0 0) (by decide)) (th_R.i (iv_w (iv_c (by decide) : IV 0 0 0) (by decide))) dX6_borderLine_59
    · skip
      have ir91 : IV x9 (-1) (-1) := iv_uL ix9 (iv_c (by decide) : IV 0 0 0) (iv_nle c12) (by decide)
      refine lv_iconst (v := 0) hx hb dX6_borderLine_23 (by decide) ?_
      exact th_zret S hK hH hS hr hlocks (iv_w (iv_c (by decide) : IV 0 0 0) (by decide)) (th_R.i (iv_w (iv_c (by decide) : IV 0 0 0) (by decide))) dX6_borderLine_24
  exact J0 s.heap [] ls hH va_S.rf hl

set_option maxRecDepth 100000 in
theorem m_X6_drawLine (l : Launch) (D : va_G) (cT : Nat → ClassId) (T : Nat → Option Nat) (q : Nat → Int) (hq : qok q) (a0 : Nat) (t0 : T a0 = some 2) : th_Met l D cT T (kd q) yX6_drawLine cX6_drawLine 2 (some .boolean) (rmk 2 45) [.ref a0] (th_R T (some (.inl (0, 1)))) [2, 29, 46] := by
  refine th_start (by decide) (Nat.le_of_ble_eq_true rfl) ?_
  intro p e s m below meth c ls S hK hH hr hlocks hnm hl
  have hx := S.1
  have hb := S.2.1
  have hl : lv_has ls 2 [(0, .ref a0)] := hl
  have J0 : ∀ (H : Heap) (locs : List Loc) (ls : Array Slot), th_H D cT T (kd q) H → va_S (th_A T [2, 29, 46]) s.heap H locs → lv_has ls 2 [(0, .ref a0)] → W p l e (rmk 2 45) s m [.ref a0].toArray below meth c H locs 0 0 (MQ below (th_Q D cT T (kd q) (th_R T (some (.inl (0, 1)))) [2, 29, 46]) [.ref a0].toArray s 0 0 (th_A T [2, 29, 46])) (F0 m 0 ls []) := by
    intro H locs ls hH hS hl
    refine lv_aload_n hx hb dX6_drawLine_0 rfl (lv_at hl 0 rfl) ?_
    refine lv_iconst (v := 0) hx hb dX6_drawLine_1 (by decide) ?_
    refine lv_sipush (v := 999) hx hb dX6_drawLine_2 (by decide) ?_
    refine th_callVi (n := 2) (As := [.int 0, .int 999]) S hK hH hS (th_A.sub (by decide)) (m_X6_number l D cT T q hq a0 t0 (0) (iv_top _) (999) (iv_top _)) gm_742 gm_739 gm_741 gm_11 gm_115 (by decide +kernel) ⟨rfl, rfl, Nat.le_of_ble_eq_true rfl, Nat.le_of_ble_eq_true rfl⟩ t0 kd_2 rfl rfl hl.1 rfl (Nat.le_of_ble_eq_true rfl) dX6_drawLine_5 ⟨Nat.zero_le _, Nat.zero_le _⟩ (fun x1 H locs ix1 hH hS hF1 => ?_)
    refine lv_istore_n (lv' := [(1, .int x1), (0, .ref a0)]) hx hb dX6_drawLine_8 rfl hl (by decide) rfl (fun ls hl => ?_)
    refine lv_iload_n hx hb dX6_drawLine_9 rfl (lv_at hl 0 rfl) ?_
    refine lv_if_ge (tgt := 15) hx hb dX6_drawLine_10 (by decide) (fun c2 => ?_) (fun c2 => ?_)
    · skip
      have ir3 : IV x1 0 2147483647 := iv_vR (iv_c (by decide) : IV 0 0 0) ix1 (iv_le c2) (by decide)
      refine lv_aload_n hx hb dX6_drawLine_15 rfl (lv_at hl 1 rfl) ?_
      refine th_get S hK hH inG6 t0 kd_2 rfl 1 (by decide) gm_340 rfl rfl dX6_drawLine_16 (fun v4 hv4 fv4 => ?_)
      obtain ⟨rf5, rfl, trf5⟩ := th_V.ref hv4
      refine lv_iconst (v := 1) hx hb dX6_drawLine_19 (by decide) ?_
      refine th_put S hK hH hS ⟨46, by decide, trf5⟩ inG4 tyX4 tyX4_ok nmX4 trf5 kd_46 rfl 18 (by decide) gm_299 rfl rfl rfl rfl (th_iv (iv_w (iv_c (by decide) : IV 1 1 1) (by decide))) (fun _ _ => trivial) (ty := .boolean) (by decide +kernel) (th_nbool (iv_w (iv_c (by decide) : IV 1 1 1) (by decide))) rfl dX6_drawLine_20 (fun H locs hH hS hq1 hp1 => ?_)
      have f6 := fv4.kept (hq1 _ (th_ne t0 trf5 (by decide)))
      refine lv_aload_n hx hb dX6_drawLine_23 rfl (lv_at hl 1 rfl) ?_
      refine th_getK S hK f6 inG6 rfl (by decide) gm_340 rfl dX6_drawLine_24 ?_
      refine th_get S hK hH inG4 trf5 kd_46 rfl 10 (by decide) gm_272 rfl rfl dX6_drawLine_27 (fun v8 hv8 fv8 => ?_)
      obtain ⟨rf9, rfl, trf9⟩ := th_V.ref hv8
      refine th_get S hK hH inG7 trf9 kd_10 rfl 0 (by decide) gm_229 rfl rfl dX6_drawLine_30 (fun v10 hv10 fv10 => ?_)
      obtain ⟨rf11, rfl, trf11⟩ := th_V.ref hv10
      refine lv_bipush (v := 42) hx hb dX6_drawLine_33 (by decide) ?_
      refine lv_iload_n hx hb dX6_drawLine_35 rfl (lv_at hl 0 rfl) ?_
      refine th_iast S hK hH hS ⟨29, by decide, trf11⟩ trf11 kd_29 (th_in (hi := 42) (iv_w (iv_c (by decide) : IV 42 42 42) (by decide)) (by decide)) (th_iv (iv_top _)) dX6_drawLine_36 (fun H locs hH hS hq1 => ?_)
      have f12 := f6.kept (hq1 _ (th_ne t0 trf11 (by decide)))
      refine lv_iconst (v := 1) hx hb dX6_drawLine_37 (by decide) ?_
      exact th_zret S hK hH hS hr hlocks (iv_w (iv_c (by decide) : IV 1 1 1) (by decide)) (th_R.i (iv_w (iv_c (by decide) : IV 1 1 1) (by decide))) dX6_drawLine_38
    · skip
      have ir13 : IV x1 (-2147483648) (-1) := iv_uL ix1 (iv_c (by decide) : IV 0 0 0) (iv_nle c2) (by decide)
      refine lv_iconst (v := 0) hx hb dX6_drawLine_13 (by decide) ?_
      exact th_zret S hK hH hS hr hlocks (iv_w (iv_c (by decide) : IV 0 0 0) (by decide)) (th_R.i (iv_w (iv_c (by decide) : IV 0 0 0) (by decide))) dX6_drawLine_14
  exact J0 s.heap [] ls hH va_S.rf hl

set_option maxRecDepth 100000 in
theorem m_X6_readAll (l : Launch) (D : va_G) (cT : Nat → ClassId) (T : Nat → Option Nat) (q : Nat → Int) (hT : tok T) (hqr : qokr q) (a0 : Nat) (t0 : T a0 = some 2) : th_MetX l D cT T q yX6_readAll cX6_readAll 4 (some .boolean) (rmk 59 1498) [.ref a0] (th_R T (some (.inl (0, 1)))) [2, 29, 46, 47, 48, 49, 50, 51, 52, 53, 54, 55, 56, 57, 58, 59] := by
  refine th_startX (by decide) (Nat.le_of_ble_eq_true rfl) ?_
  have hq := hqr.1
  intro p e s m below meth c ls S hK hH hr hlocks hnm hl
  have hx := S.1
  have hb := S.2.1
  have hl : lv_has ls 4 [(0, .ref a0)] := hl
  have J236 : ∀ (q236 : Nat → Int) (H : Heap) (locs : List Loc) (ls : Array Slot) (v236_1 : Int32), qokr q236 → q236 0 = q 0 → IV v236_1 0 1 → th_H D cT T (kd q236) H → va_S (th_A T [2, 29, 46, 47, 48, 49, 50, 51, 52, 53, 54, 55, 56, 57, 58, 59]) s.heap H locs → lv_has ls 4 [(1, .int v236_1)] → W p l e (rmk 59 1498) s m [.ref a0].toArray below meth c H locs 0 0 (MQ below (th_QX D cT T q (th_R T (some (.inl (0, 1)))) [2, 29, 46, 47, 48, 49, 50, 51, 52, 53, 54, 55, 56, 57, 58, 59]) [.ref a0].toArray s 0 0 (th_A T [2, 29, 46, 47, 48, 49, 50, 51, 52, 53, 54, 55, 56, 57, 58, 59])) (F0 m 236 ls []) := by
    intro q236 H locs ls v236_1 hr236 h0236 iv236_1 hH hS hl
    refine lv_iload_n hx hb dX6_readAll_236 rfl (lv_at hl 0 rfl) ?_
    exact th_zretX S hK hH hS hr hlocks hr236 h0236 iv236_1 (th_R.i iv236_1) dX6_readAll_237
  have J26 : ∀ (n : Nat) (q26 : Nat → Int) (H : Heap) (locs : List Loc) (ls : Array Slot) (v26_1 : Int32) (v26_2 : Int32), qokr q26 → q26 0 = q 0 → IV v26_1 0 1 → IV v26_2 0 1601 → th_H D cT T (kd q26) H → va_S (th_A T [2, 29, 46, 47, 48, 49, 50, 51, 52, 53, 54, 55, 56, 57, 58, 59]) s.heap H locs → lv_has ls 4 [(0, .ref a0), (1, .int v26_1), (2, .int v26_2)] → (1601 + 1 - v26_2.toInt).toNat < n → W p l e (rmk 59 1498) s m [.ref a0].toArray below meth c H locs 0 0 (MQ below (th_QX D cT T q (th_R T (some (.inl (0, 1)))) [2, 29, 46, 47, 48, 49, 50, 51, 52, 53, 54, 55, 56, 57, 58, 59]) [.ref a0].toArray s 0 0 (th_A T [2, 29, 46, 47, 48, 49, 50, 51, 52, 53, 54, 55, 56, 57, 58, 59])) (F0 m 26 ls []) := by
    intro n
    induction n with
    | zero => intro q26 H locs ls v26_1 v26_2 hr26 h026 iv26_1 iv26_2 hH hS hl hn; exact absurd hn (Nat.not_lt_zero _)
    | succ n ih26 =>
      intro q26 H locs ls v26_1 v26_2 hr26 h026 iv26_1 iv26_2 hH hS hl hn26
      have J229_s0_0 : ∀ (q229 : Nat → Int) (H : Heap) (locs : List Loc) (ls : Array Slot), qokr q229 → q229 0 = q 0 → IV v26_2 0 1600 → th_H D cT T (kd q229) H → va_S (th_A T [2, 29, 46, 47, 48, 49, 50, 51, 52, 53, 54, 55, 56, 57, 58, 59]) s.heap H locs → lv_has ls 4 [(0, .ref a0), (2, .int v26_2)] → W p l e (rmk 59 1498) s m [.ref a0].toArray below meth c H locs 0 0 (MQ below (th_QX D cT T q (th_R T (some (.inl (0, 1)))) [2, 29, 46, 47, 48, 49, 50, 51, 52, 53, 54, 55, 56, 57, 58, 59]) [.ref a0].toArray s 0 0 (th_A T [2, 29, 46, 47, 48, 49, 50, 51, 52, 53, 54, 55, 56, 57, 58, 59])) (F0 m 229 ls [.int 0]) := by
        intro q229 H locs ls hr229 h0229 f229_v26_2 hH hS hl
        refine lv_istore_n (lv' := [(1, .int 0), (0, .ref a0), (2, .int v26_2)]) hx hb dX6_readAll_229 rfl hl (by decide) rfl (fun ls hl => ?_)
        refine th_iinc S dX6_readAll_230 hl (k := 2) rfl (by decide) f229_v26_2 (by decide) (fun x1 ls ex1 ix1 hl => ?_)
        have hl : lv_has ls 4 [(2, .int x1), (1, .int 0), (0, .ref a0)] := hl
        have ix1 : IV x1 1 1601 := ix1
        refine lv_goto (tgt := 26) hx hb dX6_readAll_233 (by decide) ?_
        exact ih26 q229 H locs ls 0 x1 hr229 h0229 (iv_w (iv_c (by decide) : IV 0 0 0) (by decide)) (iv_w ix1 (by decide)) hH hS (lv_sub hl [2, 1, 0] rfl) (th_up iv26_2 ex1 (by decide) hn26)
      have J229_s0_1 : ∀ (q229 : Nat → Int) (H : Heap) (locs : List Loc) (ls : Array Slot), qokr q229 → q229 0 = q 0 → IV v26_2 0 1600 → th_H D cT T (kd q229) H → va_S (th_A T [2, 29, 46, 47, 48, 49, 50, 51, 52, 53, 54, 55, 56, 57, 58, 59]) s.heap H locs → lv_has ls 4 [(0, .ref a0), (2, .int v26_2)] → W p l e (rmk 59 1498) s m [.ref a0].toArray below meth c H locs 0 0 (MQ below (th_QX D cT T q (th_R T (some (.inl (0, 1)))) [2, 29, 46, 47, 48, 49, 50, 51, 52, 53, 54, 55, 56, 57, 58, 59]) [.ref a0].toArray s 0 0 (th_A T [2, 29, 46, 47, 48, 49, 50, 51, 52, 53, 54, 55, 56, 57, 58, 59])) (F0 m 229 ls [.int 1]) := by
        intro q229 H locs ls hr229 h0229 f229_v26_2 hH hS hl
        refine lv_istore_n (lv' := [(1, .int 1), (0, .ref a0), (2, .int v26_2)]) hx hb dX6_readAll_229 rfl hl (by decide) rfl (fun ls hl => ?_)
        refine th_iinc S dX6_readAll_230 hl (k := 2) rfl (by decide) f229_v26_2 (by decide) (fun x2 ls ex2 ix2 hl => ?_)
        have hl : lv_has ls 4 [(2, .int x2), (1, .int 1), (0, .ref a0)] := hl
        have ix2 : IV x2 1 1601 := ix2
        refine lv_goto (tgt := 26) hx hb dX6_readAll_233 (by decide) ?_
        exact ih26 q229 H locs ls 1 x2 hr229 h0229 (iv_w (iv_c (by decide) : IV 1 1 1) (by decide)) (iv_w ix2 (by decide)) hH hS (lv_sub hl [2, 1, 0] rfl) (th_up iv26_2 ex2 (by decide) hn26)
      have J228 : ∀ (q228 : Nat → Int) (H : Heap) (locs : List Loc) (ls : Array Slot), qokr q228 → q228 0 = q 0 → IV v26_2 0 1600 → th_H D cT T (kd q228) H → va_S (th_A T [2, 29, 46, 47, 48, 49, 50, 51, 52, 53, 54, 55, 56, 57, 58, 59]) s.heap H locs → lv_has ls 4 [(0, .ref a0), (2, .int v26_2)] → W p l e (rmk 59 1498) s m [.ref a0].toArray below meth c H locs 0 0 (MQ below (th_QX D cT T q (th_R T (some (.inl (0, 1)))) [2, 29, 46, 47, 48, 49, 50, 51, 52, 53, 54, 55, 56, 57, 58, 59]) [.ref a0].toArray s 0 0 (th_A T [2, 29, 46, 47, 48, 49, 50, 51, 52, 53, 54, 55, 56, 57, 58, 59])) (F0 m 228 ls []) := by
        intro q228 H locs ls hr228 h0228 f228_v26_2 hH hS hl
        refine lv_iconst (v := 0) hx hb dX6_readAll_228 (by decide) ?_
        exact J229_s0_0 q228 H locs ls hr228 h0228 f228_v26_2 hH hS (lv_sub hl [0, 1] rfl)
      have J211 : ∀ (q211 : Nat → Int) (H : Heap) (locs : List Loc) (ls : Array Slot) (v211_1 : Int32), qokr q211 → q211 0 = q 0 → IV v211_1 0 1 → IV v26_2 0 1600 → th_H D cT T (kd q211) H → va_S (th_A T [2, 29, 46, 47, 48, 49, 50, 51, 52, 53, 54, 55, 56, 57, 58, 59]) s.heap H locs → lv_has ls 4 [(0, .ref a0), (1, .int v211_1), (2, .int v26_2)] → W p l e (rmk 59 1498) s m [.ref a0].toArray below meth c H locs 0 0 (MQ below (th_QX D cT T q (th_R T (some (.inl (0, 1)))) [2, 29, 46, 47, 48, 49, 50, 51, 52, 53, 54, 55, 56, 57, 58, 59]) [.ref a0].toArray s 0 0 (th_A T [2, 29, 46, 47, 48, 49, 50, 51, 52, 53, 54, 55, 56, 57, 58, 59])) (F0 m 211 ls []) := by
        intro q211 H locs ls v211_1 hr211 h0211 iv211_1 f211_v26_2 hH hS hl
        refine lv_iload_n hx hb dX6_readAll_211 rfl (lv_at hl 1 rfl) ?_
        refine lv_if_eq (tgt := 228) hx hb dX6_readAll_212 (by decide) (fun c3 => ?_) (fun c3 => ?_)
        · skip
          have ir4 : IV v211_1 0 0 := iv_eL c3 (iv_c (by decide) : IV 0 0 0)
          have ir4a := ir4.1
          have ir4b := ir4.2
          exact J228 q211 H locs ls hr211 h0211 f211_v26_2 hH hS (lv_sub hl [0, 2] rfl)
        · skip
          have ir5 : IV v211_1 1 1 := iv_cutL iv211_1 (iv_c (by decide) : IV 0 0 0) c3 (by decide)
          have ir5a := ir5.1
          have ir5b := ir5.2
          refine lv_aload_n hx hb dX6_readAll_215 rfl (lv_at hl 0 rfl) ?_
          refine lv_bipush (v := 59) hx hb dX6_readAll_216 (by decide) ?_
          refine th_callVi (n := 1) (As := [.int 59]) S hK hH hS (th_A.sub (by decide)) (m_X6_take l D cT T q211 hr211.1 a0 t0 (59) (iv_top _)) gm_750 gm_747 gm_749 gm_13 gm_115 (by decide +kernel) ⟨rfl, rfl, Nat.le_of_ble_eq_true rfl, Nat.le_of_ble_eq_true rfl⟩ t0 kd_2 rfl rfl hl.1 rfl (Nat.le_of_ble_eq_true rfl) dX6_readAll_218 ⟨Nat.zero_le _, Nat.zero_le _⟩ (fun x6 H locs ix6 hH hS hF1 => ?_)
          refine lv_if_eq (tgt := 228) hx hb dX6_readAll_221 (by decide) (fun c7 => ?_) (fun c7 => ?_)
          · skip
            have ir8 : IV x6 0 0 := iv_eL c7 (iv_c (by decide) : IV 0 0 0)
            have ir8a := ir8.1
            have ir8b := ir8.2
            exact J228 q211 H locs ls hr211 h0211 f211_v26_2 hH hS (lv_sub hl [0, 2] rfl)
          · skip
            have ir9 : IV x6 1 1 := iv_cutL ix6 (iv_c (by decide) : IV 0 0 0) c7 (by decide)
            have ir9a := ir9.1
            have ir9b := ir9.2
            refine lv_iconst (v := 1) hx hb dX6_readAll_224 (by decide) ?_
            refine lv_goto (tgt := 229) hx hb dX6_readAll_225 (by decide) ?_
            exact J229_s0_1 q211 H locs ls hr211 h0211 f211_v26_2 hH hS (lv_sub hl [0, 2] rfl)
      refine lv_iload_n hx hb dX6_readAll_26 rfl (lv_at hl 1 rfl) ?_
      refine lv_if_eq (tgt := 236) hx hb dX6_readAll_27 (by decide) (fun c10 => ?_) (fun c10 => ?_)
      · skip
        have ir11 : IV v26_1 0 0 := iv_eL c10 (iv_c (by decide) : IV 0 0 0)
        have ir11a := ir11.1
        have ir11b := ir11.2
        exact J236 q26 H locs ls v26_1 hr26 h026 (iv_w ir11 (by decide)) hH hS (lv_sub hl [1] rfl)
      · skip
        have ir12 : IV v26_1 1 1 := iv_cutL iv26_1 (iv_c (by decide) : IV 0 0 0) c10 (by decide)
        have ir12a := ir12.1
        have ir12b := ir12.2
        refine lv_iload_n hx hb dX6_readAll_30 rfl (lv_at hl 2 rfl) ?_
        refine lv_aload_n hx hb dX6_readAll_31 rfl (lv_at hl 0 rfl) ?_
        refine th_get S hK hH inG6 t0 kd_2 rfl 0 (by decide) gm_339 rfl rfl dX6_readAll_32 (fun v13 hv13 fv13 => ?_)
        obtain ⟨rf14, rfl, trf14⟩ := th_V.ref hv13
        refine th_get S hK hH inG8 trf14 kd_1 rfl 5 (by decide) gm_159 rfl rfl dX6_readAll_35 (fun v15 hv15 fv15 => ?_)
        obtain ⟨x16, rfl, ix16⟩ := th_V.int hv15
        refine lv_icmp_ge (tgt := 236) hx hb dX6_readAll_38 (by decide) (fun c17 => ?_) (fun c17 => ?_)
        · skip
          exact J236 q26 H locs ls v26_1 hr26 h026 (iv_w ir12 (by decide)) hH hS (lv_sub hl [1] rfl)
        · skip
          have ir18 : IV v26_2 0 1600 := iv_uL iv26_2 ix16 (iv_nle c17) (by decide)
          have ir18a := ir18.1
          have ir18b := ir18.2
          have ir19 : IV x16 1 1601 := iv_uR iv26_2 ix16 (iv_nle c17) (by decide)
          have ir19a := ir19.1
          have ir19b := ir19.2
          refine lv_aload_n hx hb dX6_readAll_41 rfl (lv_at hl 0 rfl) ?_
          refine th_callVi (n := 0) (As := []) S hK hH hS (th_A.sub (by decide)) (m_X6_kind l D cT T q26 hr26.1 a0 t0) gm_708 gm_705 gm_707 gm_5 gm_115 (by decide +kernel) ⟨rfl, rfl, Nat.le_of_ble_eq_true rfl, Nat.le_of_ble_eq_true rfl⟩ t0 kd_2 rfl rfl hl.1 rfl (Nat.le_of_ble_eq_true rfl) dX6_readAll_42 ⟨Nat.zero_le _, Nat.zero_le _⟩ (fun x20 H locs ix20 hH hS hF1 => ?_)
          refine lv_if_eq (tgt := 236) hx hb dX6_readAll_45 (by decide) (fun c21 => ?_) (fun c21 => ?_)
          · skip
            have ir22 : IV x20 0 0 := iv_eL c21 (iv_c (by decide) : IV 0 0 0)
            have ir22a := ir22.1
            have ir22b := ir22.2
            exact J236 q26 H locs ls v26_1 hr26 h026 (iv_w ir12 (by decide)) hH hS (lv_sub hl [1] rfl)
          · skip
            refine lv_aload_n hx hb dX6_readAll_48 rfl (lv_at hl 0 rfl) ?_
            refine th_callVi (n := 0) (As := []) S hK hH hS (th_A.sub (by decide)) (m_X6_kind l D cT T q26 hr26.1 a0 t0) gm_708 gm_705 gm_707 gm_5 gm_115 (by decide +kernel) ⟨rfl, rfl, Nat.le_of_ble_eq_true rfl, Nat.le_of_ble_eq_true rfl⟩ t0 kd_2 rfl rfl hl.1 rfl (Nat.le_of_ble_eq_true rfl) dX6_readAll_49 ⟨Nat.zero_le _, Nat.zero_le _⟩ (fun x23 H locs ix23 hH hS hF1 => ?_)
            refine lv_istore_n (lv' := [(3, .int x23), (0, .ref a0), (1, .int v26_1), (2, .int v26_2)]) hx hb dX6_readAll_52 rfl hl (by decide) rfl (fun ls hl => ?_)
            refine lv_aload_n hx hb dX6_readAll_53 rfl (lv_at hl 1 rfl) ?_
            refine th_get S hK hH inG6 t0 kd_2 rfl 1 (by decide) gm_340 rfl rfl dX6_readAll_54 (fun v24 hv24 fv24 => ?_)
            obtain ⟨rf25, rfl, trf25⟩ := th_V.ref hv24
            refine lv_iload_n hx hb dX6_readAll_57 rfl (lv_at hl 0 rfl) ?_
            refine th_callVh (n := 1) (As := [.int x23]) S hK hH hS (th_A.sub (by decide)) (m_X4_hasRoomFor l D cT T q26 hr26.1 rf25 trf25 (x23) ix23) gm_712 gm_709 gm_710 gm_711 gm_116 (by decide +kernel) ⟨rfl, rfl, Nat.le_of_ble_eq_true rfl, Nat.le_of_ble_eq_true rfl⟩ trf25 kd_46 rfl rfl hl.1 rfl (Nat.le_of_ble_eq_true rfl) dX6_readAll_58 ⟨Nat.zero_le _, Nat.zero_le _⟩ (fun x26 H locs ix26 ox26 hH hS hF1 => ?_)
            have f27 := fv24.kept (hF1 _ fv24.lt (th_off t0 (by decide)))
            refine lv_if_ne (tgt := 70) hx hb dX6_readAll_61 (by decide) (fun c28 => ?_) (fun c28 => ?_)
            · skip
              have ir29 : IV x26 1 1 := iv_cutL ix26 (iv_c (by decide) : IV 0 0 0) c28 (by decide)
              have ir29a := ir29.1
              have ir29b := ir29.2
              have o30 := ox26 c28
              refine lv_aload_n hx hb dX6_readAll_70 rfl (lv_at hl 1 rfl) ?_
              refine lv_dup hx hb dX6_readAll_71 rfl ?_
              refine th_get S hK hH inG6 t0 kd_2 rfl 2 (by decide) gm_342 rfl rfl dX6_readAll_72 (fun v31 hv31 fv31 => ?_)
              obtain ⟨x32, rfl, ix32⟩ := th_V.int hv31
              refine lv_iconst (v := 1) hx hb dX6_readAll_75 (by decide) ?_
              refine lv_iadd hx hb dX6_readAll_76 ?_
              refine lv_topi (fun x33 ex33 => ?_)
              have ix33 := iv_top x33
              refine th_put S hK hH hS ⟨2, by decide, t0⟩ inG6 tyX6 tyX6_ok nmX6 t0 kd_2 rfl 2 (by decide) gm_342 rfl rfl rfl rfl (th_iv ix33) (fun _ _ => trivial) (ty := .int) (by decide +kernel) rfl rfl dX6_readAll_77 (fun H locs hH hS hq1 hp1 => ?_)
              have f34 := hp1.2 1 _ (by decide) (by decide) f27
              have f35 := hp1.1
              refine lv_iload_n hx hb dX6_readAll_80 rfl (lv_at hl 0 rfl) ?_
              by_cases c36 : x23.toInt < 128 ∨ 134 < x23.toInt
              · refine lv_tableOut (tgt := 206) hx hb dX6_readAll_81 c36 (by decide) ?_
                refine lv_aload_n hx hb dX6_readAll_206 rfl (lv_at hl 1 rfl) ?_
                refine th_callVi (n := 0) (As := []) S hK hH hS (th_A.sub (by decide)) (m_X6_drawLine l D cT T q26 hr26.1 a0 t0) gm_801 gm_798 gm_800 gm_22 gm_115 (by decide +kernel) ⟨rfl, rfl, Nat.le_of_ble_eq_true rfl, Nat.le_of_ble_eq_true rfl⟩ t0 kd_2 rfl rfl hl.1 rfl (Nat.le_of_ble_eq_true rfl) dX6_readAll_207 ⟨Nat.zero_le _, Nat.zero_le _⟩ (fun x37 H locs ix37 hH hS hF1 => ?_)
                refine lv_istore_n (lv' := [(1, .int x37), (3, .int x23), (0, .ref a0), (2, .int v26_2)]) hx hb dX6_readAll_210 rfl hl (by decide) rfl (fun ls hl => ?_)
                exact J211 q26 H locs ls x37 hr26 h026 ix37 ir18 hH hS (lv_sub hl [2, 0, 3] rfl)
              · rcases (show x23.toInt = 128 ∨ x23.toInt = 129 ∨ x23.toInt = 130 ∨ x23.toInt = 131 ∨ x23.toInt = 132 ∨ x23.toInt = 133 ∨ x23.toInt = 134 by omega) with c36b | c36b | c36b | c36b | c36b | c36b | c36b
                · refine lv_tableIn (tgt := 124) (off := 43) hx hb dX6_readAll_81 (by omega) (by omega) (by rw [c36b]; rfl) (by decide) ?_
                  refine lv_aload_n hx hb dX6_readAll_124 rfl (lv_at hl 1 rfl) ?_
                  refine th_callVX (n := 0) (As := []) S hK hH hS (th_A.sub (by decide)) (m_X6_foodLine l D cT T q26 hT hr26 (o30.1 c36b) a0 t0) gm_726 gm_723 gm_725 gm_7 gm_115 (by decide +kernel) ⟨rfl, rfl, Nat.le_of_ble_eq_true rfl, Nat.le_of_ble_eq_true rfl⟩ t0 kd_2 rfl rfl hl.1 rfl (Nat.le_of_ble_eq_true rfl) dX6_readAll_125 ⟨Nat.zero_le _, Nat.zero_le _⟩ (fun wq39 q39 H locs hvq39 hrq39 h0q39 hH hS hF1 => ?_)
                  obtain ⟨_, rfl, x38, rfl, ix38⟩ := hvq39
                  have hqq39 := hrq39.1
                  show W p l e (rmk 59 1498) s m [.ref a0].toArray below meth c H locs 0 0 (MQ below (th_QX D cT T q (th_R T (some (.inl (0, 1)))) [2, 29, 46, 47, 48, 49, 50, 51, 52, 53, 54, 55, 56, 57, 58, 59]) [.ref a0].toArray s 0 0 (th_A T [2, 29, 46, 47, 48, 49, 50, 51, 52, 53, 54, 55, 56, 57, 58, 59])) (F0 m 128 ls [.int x38])
                  refine lv_istore_n (lv' := [(1, .int x38), (3, .int x23), (0, .ref a0), (2, .int v26_2)]) hx hb dX6_readAll_128 rfl hl (by decide) rfl (fun ls hl => ?_)
                  refine lv_goto (tgt := 211) hx hb dX6_readAll_129 (by decide) ?_
                  exact J211 q39 H locs ls x38 hrq39 (h0q39.trans h026) ix38 ir18 hH hS (lv_sub hl [2, 0, 3] rfl)
                · refine lv_tableIn (tgt := 132) (off := 51) hx hb dX6_readAll_81 (by omega) (by omega) (by rw [c36b]; rfl) (by decide) ?_
                  refine lv_aload_n hx hb dX6_readAll_132 rfl (lv_at hl 1 rfl) ?_
                  refine th_callVX (n := 0) (As := []) S hK hH hS (th_A.sub (by decide)) (m_X6_mapLine l D cT T q26 hT hr26 (o30.2.1 c36b) a0 t0) gm_746 gm_743 gm_745 gm_12 gm_115 (by decide +kernel) ⟨rfl, rfl, Nat.le_of_ble_eq_true rfl, Nat.le_of_ble_eq_true rfl⟩ t0 kd_2 rfl rfl hl.1 rfl (Nat.le_of_ble_eq_true rfl) dX6_readAll_133 ⟨Nat.zero_le _, Nat.zero_le _⟩ (fun wq41 q41 H locs hvq41 hrq41 h0q41 hH hS hF1 => ?_)
                  obtain ⟨_, rfl, x40, rfl, ix40⟩ := hvq41
                  have hqq41 := hrq41.1
                  show W p l e (rmk 59 1498) s m [.ref a0].toArray below meth c H locs 0 0 (MQ below (th_QX D cT T q (th_R T (some (.inl (0, 1)))) [2, 29, 46, 47, 48, 49, 50, 51, 52, 53, 54, 55, 56, 57, 58, 59]) [.ref a0].toArray s 0 0 (th_A T [2, 29, 46, 47, 48, 49, 50, 51, 52, 53, 54, 55, 56, 57, 58, 59])) (F0 m 136 ls [.int x40])
                  refine lv_istore_n (lv' := [(1, .int x40), (3, .int x23), (0, .ref a0), (2, .int v26_2)]) hx hb dX6_readAll_136 rfl hl (by decide) rfl (fun ls hl => ?_)
                  refine lv_goto (tgt := 211) hx hb dX6_readAll_137 (by decide) ?_
                  exact J211 q41 H locs ls x40 hrq41 (h0q41.trans h026) ix40 ir18 hH hS (lv_sub hl [2, 0, 3] rfl)
                · refine lv_tableIn (tgt := 140) (off := 59) hx hb dX6_readAll_81 (by omega) (by omega) (by rw [c36b]; rfl) (by decide) ?_
                  refine lv_aload_n hx hb dX6_readAll_140 rfl (lv_at hl 1 rfl) ?_
                  refine th_callVX (n := 0) (As := []) S hK hH hS (th_A.sub (by decide)) (m_X6_placeLine l D cT T q26 hT hr26 (o30.2.2 c36b) a0 t0) gm_781 gm_778 gm_780 gm_17 gm_115 (by decide +kernel) ⟨rfl, rfl, Nat.le_of_ble_eq_true rfl, Nat.le_of_ble_eq_true rfl⟩ t0 kd_2 rfl rfl hl.1 rfl (Nat.le_of_ble_eq_true rfl) dX6_readAll_141 ⟨Nat.zero_le _, Nat.zero_le _⟩ (fun wq43 q43 H locs hvq43 hrq43 h0q43 hH hS hF1 => ?_)
                  obtain ⟨_, rfl, x42, rfl, ix42⟩ := hvq43
                  have hqq43 := hrq43.1
                  show W p l e (rmk 59 1498) s m [.ref a0].toArray below meth c H locs 0 0 (MQ below (th_QX D cT T q (th_R T (some (.inl (0, 1)))) [2, 29, 46, 47, 48, 49, 50, 51, 52, 53, 54, 55, 56, 57, 58, 59]) [.ref a0].toArray s 0 0 (th_A T [2, 29, 46, 47, 48, 49, 50, 51, 52, 53, 54, 55, 56, 57, 58, 59])) (F0 m 144 ls [.int x42])
                  refine lv_istore_n (lv' := [(1, .int x42), (3, .int x23), (0, .ref a0), (2, .int v26_2)]) hx hb dX6_readAll_144 rfl hl (by decide) rfl (fun ls hl => ?_)
                  refine lv_goto (tgt := 211) hx hb dX6_readAll_145 (by decide) ?_
                  exact J211 q43 H locs ls x42 hrq43 (h0q43.trans h026) ix42 ir18 hH hS (lv_sub hl [2, 0, 3] rfl)
                · refine lv_tableIn (tgt := 148) (off := 67) hx hb dX6_readAll_81 (by omega) (by omega) (by rw [c36b]; rfl) (by decide) ?_
                  refine lv_aload_n hx hb dX6_readAll_148 rfl (lv_at hl 1 rfl) ?_
                  refine th_callVi (n := 0) (As := []) S hK hH hS (th_A.sub (by decide)) (m_X6_likesLine l D cT T q26 hr26.1 a0 t0) gm_793 gm_790 gm_792 gm_20 gm_115 (by decide +kernel) ⟨rfl, rfl, Nat.le_of_ble_eq_true rfl, Nat.le_of_ble_eq_true rfl⟩ t0 kd_2 rfl rfl hl.1 rfl (Nat.le_of_ble_eq_true rfl) dX6_readAll_149 ⟨Nat.zero_le _, Nat.zero_le _⟩ (fun x44 H locs ix44 hH hS hF1 => ?_)
                  refine lv_istore_n (lv' := [(1, .int x44), (3, .int x23), (0, .ref a0), (2, .int v26_2)]) hx hb dX6_readAll_152 rfl hl (by decide) rfl (fun ls hl => ?_)
                  refine lv_goto (tgt := 211) hx hb dX6_readAll_153 (by decide) ?_
                  exact J211 q26 H locs ls x44 hr26 h026 ix44 ir18 hH hS (lv_sub hl [2, 0, 3] rfl)
                · refine lv_tableIn (tgt := 156) (off := 75) hx hb dX6_readAll_81 (by omega) (by omega) (by rw [c36b]; rfl) (by decide) ?_
                  refine lv_aload_n hx hb dX6_readAll_156 rfl (lv_at hl 1 rfl) ?_
                  refine th_callVi (n := 0) (As := []) S hK hH hS (th_A.sub (by decide)) (m_X6_borderLine l D cT T q26 hr26.1 a0 t0) gm_797 gm_794 gm_796 gm_21 gm_115 (by decide +kernel) ⟨rfl, rfl, Nat.le_of_ble_eq_true rfl, Nat.le_of_ble_eq_true rfl⟩ t0 kd_2 rfl rfl hl.1 rfl (Nat.le_of_ble_eq_true rfl) dX6_readAll_157 ⟨Nat.zero_le _, Nat.zero_le _⟩ (fun x45 H locs ix45 hH hS hF1 => ?_)
                  refine lv_istore_n (lv' := [(1, .int x45), (3, .int x23), (0, .ref a0), (2, .int v26_2)]) hx hb dX6_readAll_160 rfl hl (by decide) rfl (fun ls hl => ?_)
                  refine lv_goto (tgt := 211) hx hb dX6_readAll_161 (by decide) ?_
                  exact J211 q26 H locs ls x45 hr26 h026 ix45 ir18 hH hS (lv_sub hl [2, 0, 3] rfl)
                · refine lv_tableIn (tgt := 164) (off := 83) hx hb dX6_readAll_81 (by omega) (by omega) (by rw [c36b]; rfl) (by decide) ?_
                  refine lv_aload_n hx hb dX6_readAll_164 rfl (lv_at hl 1 rfl) ?_
                  refine th_getK S hK f34 inG6 rfl (by decide) gm_340 rfl dX6_readAll_165 ?_
                  refine lv_iconst (v := 1) hx hb dX6_readAll_168 (by decide) ?_
                  refine th_put S hK hH hS ⟨46, by decide, trf25⟩ inG4 tyX4 tyX4_ok nmX4 trf25 kd_46 rfl 16 (by decide) gm_294 rfl rfl rfl rfl (th_iv (iv_w (iv_c (by decide) : IV 1 1 1) (by decide))) (fun _ _ => trivial) (ty := .boolean) (by decide +kernel) (th_nbool (iv_w (iv_c (by decide) : IV 1 1 1) (by decide))) rfl dX6_readAll_169 (fun H locs hH hS hq1 hp1 => ?_)
                  have f47 := f34.kept (hq1 _ (th_ne t0 trf25 (by decide)))
                  have f48 := f35.kept (hq1 _ (th_ne t0 trf25 (by decide)))
                  refine lv_aload_n hx hb dX6_readAll_172 rfl (lv_at hl 1 rfl) ?_
                  refine lv_iconst (v := 4) hx hb dX6_readAll_173 (by decide) ?_
                  refine th_callVi (n := 1) (As := [.int 4]) S hK hH hS (th_A.sub (by decide)) (m_X6_formula l D cT T q26 hr26.1 a0 t0 (4) (iv_w (iv_c (by decide) : IV 4 4 4) (by decide))) gm_754 gm_751 gm_753 gm_14 gm_115 (by decide +kernel) ⟨rfl, rfl, Nat.le_of_ble_eq_true rfl, Nat.le_of_ble_eq_true rfl⟩ t0 kd_2 rfl rfl hl.1 rfl (Nat.le_of_ble_eq_true rfl) dX6_readAll_174 ⟨Nat.zero_le _, Nat.zero_le _⟩ (fun x49 H locs ix49 hH hS hF1 => ?_)
                  refine lv_istore_n (lv' := [(1, .int x49), (3, .int x23), (0, .ref a0), (2, .int v26_2)]) hx hb dX6_readAll_177 rfl hl (by decide) rfl (fun ls hl => ?_)
                  refine lv_goto (tgt := 211) hx hb dX6_readAll_178 (by decide) ?_
                  exact J211 q26 H locs ls x49 hr26 h026 ix49 ir18 hH hS (lv_sub hl [2, 0, 3] rfl)
                · refine lv_tableIn (tgt := 181) (off := 100) hx hb dX6_readAll_81 (by omega) (by omega) (by rw [c36b]; rfl) (by decide) ?_
                  refine lv_aload_n hx hb dX6_readAll_181 rfl (lv_at hl 1 rfl) ?_
                  refine th_getK S hK f34 inG6 rfl (by decide) gm_340 rfl dX6_readAll_182 ?_
                  refine lv_iconst (v := 1) hx hb dX6_readAll_185 (by decide) ?_
                  refine th_put S hK hH hS ⟨46, by decide, trf25⟩ inG4 tyX4 tyX4_ok nmX4 trf25 kd_46 rfl 17 (by decide) gm_297 rfl rfl rfl rfl (th_iv (iv_w (iv_c (by decide) : IV 1 1 1) (by decide))) (fun _ _ => trivial) (ty := .boolean) (by decide +kernel) (th_nbool (iv_w (iv_c (by decide) : IV 1 1 1) (by decide))) rfl dX6_readAll_186 (fun H locs hH hS hq1 hp1 => ?_)
                  have f51 := f34.kept (hq1 _ (th_ne t0 trf25 (by decide)))
                  have f52 := f35.kept (hq1 _ (th_ne t0 trf25 (by decide)))
                  refine lv_aload_n hx hb dX6_readAll_189 rfl (lv_at hl 1 rfl) ?_
                  refine th_getK S hK f51 inG6 rfl (by decide) gm_340 rfl dX6_readAll_190 ?_
                  refine th_get S hK hH inG4 trf25 kd_46 rfl 10 (by decide) gm_272 rfl rfl dX6_readAll_193 (fun v54 hv54 fv54 => ?_)
                  obtain ⟨rf55, rfl, trf55⟩ := th_V.ref hv54
                  refine th_get S hK hH inG7 trf55 kd_10 rfl 0 (by decide) gm_229 rfl rfl dX6_readAll_196 (fun v56 hv56 fv56 => ?_)
                  obtain ⟨rf57, rfl, trf57⟩ := th_V.ref hv56
                  refine lv_bipush (v := 41) hx hb dX6_readAll_199 (by decide) ?_
                  refine lv_iconst (v := 1) hx hb dX6_readAll_201 (by decide) ?_
                  refine th_iast S hK hH hS ⟨29, by decide, trf57⟩ trf57 kd_29 (th_in (hi := 41) (iv_w (iv_c (by decide) : IV 41 41 41) (by decide)) (by decide)) (th_iv (iv_top _)) dX6_readAll_202 (fun H locs hH hS hq1 => ?_)
                  have f58 := f51.kept (hq1 _ (th_ne t0 trf57 (by decide)))
                  have f59 := f52.kept (hq1 _ (th_ne t0 trf57 (by decide)))
                  refine lv_goto (tgt := 211) hx hb dX6_readAll_203 (by decide) ?_
                  exact J211 q26 H locs ls v26_1 hr26 h026 (iv_w ir12 (by decide)) ir18 hH hS (lv_sub hl [1, 2, 3] rfl)
            · skip
              have ir60 : IV x26 0 0 := iv_eL c28 (iv_c (by decide) : IV 0 0 0)
              have ir60a := ir60.1
              have ir60b := ir60.2
              refine lv_aload_n hx hb dX6_readAll_64 rfl (lv_at hl 1 rfl) ?_
              refine lv_iconst (v := 2) hx hb dX6_readAll_65 (by decide) ?_
              refine th_callVi (n := 1) (As := [.int 2]) S hK hH hS (th_A.sub (by decide)) (m_X6_blame l D cT T q26 hr26.1 a0 t0 (2) (iv_top _)) gm_722 gm_719 gm_721 gm_6 gm_115 (by decide +kernel) ⟨rfl, rfl, Nat.le_of_ble_eq_true rfl, Nat.le_of_ble_eq_true rfl⟩ t0 kd_2 rfl rfl hl.1 rfl (Nat.le_of_ble_eq_true rfl) dX6_readAll_66 ⟨Nat.zero_le _, Nat.zero_le _⟩ (fun x61 H locs ix61 hH hS hF1 => ?_)
              exact th_zretX S hK hH hS hr hlocks hr26 h026 (iv_w ix61 (by decide)) (th_R.i (iv_w ix61 (by decide))) dX6_readAll_69
  have J0 : ∀ (H : Heap) (locs : List Loc) (ls : Array Slot), th_H D cT T (kd q) H → va_S (th_A T [2, 29, 46, 47, 48, 49, 50, 51, 52, 53, 54, 55, 56, 57, 58, 59]) s.heap H locs → lv_has ls 4 [(0, .ref a0)] → W p l e (rmk 59 1498) s m [.ref a0].toArray below meth c H locs 0 0 (MQ below (th_QX D cT T q (th_R T (some (.inl (0, 1)))) [2, 29, 46, 47, 48, 49, 50, 51, 52, 53, 54, 55, 56, 57, 58, 59]) [.ref a0].toArray s 0 0 (th_A T [2, 29, 46, 47, 48, 49, 50, 51, 52, 53, 54, 55, 56, 57, 58, 59])) (F0 m 0 ls []) := by
    intro H locs ls hH hS hl
    refine lv_aload_n hx hb dX6_readAll_0 rfl (lv_at hl 0 rfl) ?_
    refine th_get S hK hH inG6 t0 kd_2 rfl 1 (by decide) gm_340 rfl rfl dX6_readAll_1 (fun v62 hv62 fv62 => ?_)
    obtain ⟨rf63, rfl, trf63⟩ := th_V.ref hv62
    refine th_callVX (n := 0) (As := []) S hK hH hS (th_A.sub (by decide)) (m_X4_clear l D cT T q hT hqr rf63 trf63) gm_696 gm_693 gm_694 gm_695 gm_116 (by decide +kernel) ⟨rfl, rfl, Nat.le_of_ble_eq_true rfl, Nat.le_of_ble_eq_true rfl⟩ trf63 kd_46 rfl rfl hl.1 rfl (Nat.le_of_ble_eq_true rfl) dX6_readAll_4 ⟨Nat.zero_le _, Nat.zero_le _⟩ (fun wq64 q64 H locs hvq64 hrq64 h0q64 hH hS hF1 => ?_)
    have hvq64 : wq64 = none := hvq64
    subst hvq64
    have hqq64 := hrq64.1
    show W p l e (rmk 59 1498) s m [.ref a0].toArray below meth c H locs 0 0 (MQ below (th_QX D cT T q (th_R T (some (.inl (0, 1)))) [2, 29, 46, 47, 48, 49, 50, 51, 52, 53, 54, 55, 56, 57, 58, 59]) [.ref a0].toArray s 0 0 (th_A T [2, 29, 46, 47, 48, 49, 50, 51, 52, 53, 54, 55, 56, 57, 58, 59])) (F0 m 7 ls [])
    have f65 := fv62.kept (hF1 _ fv62.lt (th_off t0 (by decide)))
    refine lv_aload_n hx hb dX6_readAll_7 rfl (lv_at hl 0 rfl) ?_
    refine lv_iconst (v := 0) hx hb dX6_readAll_8 (by decide) ?_
    refine th_put S hK hH hS ⟨2, by decide, t0⟩ inG6 tyX6 tyX6_ok nmX6 t0 kd_2 rfl 2 (by decide) gm_342 rfl rfl rfl rfl (th_iv (iv_top _)) (fun _ _ => trivial) (ty := .int) (by decide +kernel) rfl rfl dX6_readAll_9 (fun H locs hH hS hq1 hp1 => ?_)
    have f66 := hp1.2 1 _ (by decide) (by decide) f65
    have f67 := hp1.1
    refine lv_aload_n hx hb dX6_readAll_12 rfl (lv_at hl 0 rfl) ?_
    refine lv_iconst (v := 0) hx hb dX6_readAll_13 (by decide) ?_
    refine th_put S hK hH hS ⟨2, by decide, t0⟩ inG6 tyX6 tyX6_ok nmX6 t0 kd_2 rfl 4 (by decide) gm_344 rfl rfl rfl rfl (th_iv (iv_top _)) (fun _ _ => trivial) (ty := .int) (by decide +kernel) rfl rfl dX6_readAll_14 (fun H locs hH hS hq1 hp1 => ?_)
    have f68 := hp1.2 1 _ (by decide) (by decide) f66
    have f69 := hp1.2 2 _ (by decide) (by decide) f67
    refine lv_aload_n hx hb dX6_readAll_17 rfl (lv_at hl 0 rfl) ?_
    refine lv_iconst (v := (-1)) hx hb dX6_readAll_18 (by decide) ?_
    refine th_put S hK hH hS ⟨2, by decide, t0⟩ inG6 tyX6 tyX6_ok nmX6 t0 kd_2 rfl 5 (by decide) gm_346 rfl rfl rfl rfl (th_iv (iv_top _)) (fun _ _ => trivial) (ty := .int) (by decide +kernel) rfl rfl dX6_readAll_19 (fun H locs hH hS hq1 hp1 => ?_)
    have f70 := hp1.2 1 _ (by decide) (by decide) f68
    have f71 := hp1.2 2 _ (by decide) (by decide) f69
    refine lv_iconst (v := 1) hx hb dX6_readAll_22 (by decide) ?_
    refine lv_istore_n (lv' := [(1, .int 1), (0, .ref a0)]) hx hb dX6_readAll_23 rfl hl (by decide) rfl (fun ls hl => ?_)
    refine lv_iconst (v := 0) hx hb dX6_readAll_24 (by decide) ?_
    refine lv_istore_n (lv' := [(2, .int 0), (1, .int 1), (0, .ref a0)]) hx hb dX6_readAll_25 rfl hl (by decide) rfl (fun ls hl => ?_)
    exact J26 ((1601 + 1 - Int32.toInt 0).toNat + 1) q64 H locs ls 1 0 hrq64 h0q64 (iv_w (iv_c (by decide) : IV 1 1 1) (by decide)) (iv_w (iv_c (by decide) : IV 0 0 0) (by decide)) hH hS (lv_sub hl [2, 1, 0] rfl) (Nat.lt_succ_self _)
  exact J0 s.heap [] ls hH va_S.rf hl

set_option maxRecDepth 100000 in
theorem m_X8_append (l : Launch) (D : va_G) (cT : Nat → ClassId) (T : Nat → Option Nat) (q : Nat → Int) (hq : qok q) (a0 : Nat) (t0 : T a0 = some 1) (y1 : Int32) (j1 : IV y1 (-2147483648) 2147483647) : th_Met l D cT T (kd q) yX8_append cX8_append 3 none (rmk 0 0) [.ref a0, .int y1] (th_R T none) [1, 11] := by
  refine th_start (by decide) (Nat.le_of_ble_eq_true rfl) ?_
  intro p e s m below meth c ls S hK hH hr hlocks hnm hl
  have hx := S.1
  have hb := S.2.1
  have hl : lv_has ls 3 [(0, .ref a0), (1, .int y1)] := hl
  have J46 : ∀ (H : Heap) (locs : List Loc) (ls : Array Slot), th_H D cT T (kd q) H → va_S (th_A T [1, 11]) s.heap H locs → lv_has ls 3 [] → W p l e (rmk 0 0) s m [.ref a0, .int y1].toArray below meth c H locs 0 0 (MQ below (th_Q D cT T (kd q) (th_R T none) [1, 11]) [.ref a0, .int y1].toArray s 0 0 (th_A T [1, 11])) (F0 m 46 ls []) := by
    intro H locs ls hH hS hl
    exact th_vret S hK hH hS hr hlocks rfl dX8_append_46
  have J3 : ∀ (n : Nat) (H : Heap) (locs : List Loc) (ls : Array Slot) (v3_2 : Int32), IV v3_2 (-128) 24 → th_H D cT T (kd q) H → va_S (th_A T [1, 11]) s.heap H locs → lv_has ls 3 [(0, .ref a0), (1, .int y1), (2, .int v3_2)] → (v3_2.toInt + 1 - (-128)).toNat < n → W p l e (rmk 0 0) s m [.ref a0, .int y1].toArray below meth c H locs 0 0 (MQ below (th_Q D cT T (kd q) (th_R T none) [1, 11]) [.ref a0, .int y1].toArray s 0 0 (th_A T [1, 11])) (F0 m 3 ls []) := by
    intro n
    induction n with
    | zero => intro H locs ls v3_2 iv3_2 hH hS hl hn; exact absurd hn (Nat.not_lt_zero _)
    | succ n ih3 =>
      intro H locs ls v3_2 iv3_2 hH hS hl hn3
      refine lv_iload_n hx hb dX8_append_3 rfl (lv_at hl 2 rfl) ?_
      refine lv_if_lt (tgt := 46) hx hb dX8_append_4 (by decide) (fun c1 => ?_) (fun c1 => ?_)
      · skip
        have ir2 : IV v3_2 (-128) (-1) := iv_uL iv3_2 (iv_c (by decide) : IV 0 0 0) (iv_lt c1) (by decide)
        exact J46 H locs ls  hH hS (lv_sub hl [] rfl)
      · skip
        have ir3 : IV v3_2 0 24 := iv_vR (iv_c (by decide) : IV 0 0 0) iv3_2 (iv_nlt c1) (by decide)
        refine lv_aload_n hx hb dX8_append_7 rfl (lv_at hl 0 rfl) ?_
        refine th_get S hK hH inG8 t0 kd_1 rfl 4 (by decide) gm_155 rfl rfl dX8_append_8 (fun v4 hv4 fv4 => ?_)
        obtain ⟨x5, rfl, ix5⟩ := th_V.int hv4
        refine lv_sipush (v := 1600) hx hb dX8_append_11 (by decide) ?_
        refine lv_icmp_ge (tgt := 46) hx hb dX8_append_14 (by decide) (fun c6 => ?_) (fun c6 => ?_)
        · skip
          have ir7 : IV x5 1600 1600 := iv_vR (iv_c (by decide) : IV 1600 1600 1600) ix5 (iv_le c6) (by decide)
          exact J46 H locs ls  hH hS (lv_sub hl [] rfl)
        · skip
          have ir8 : IV x5 0 1599 := iv_uL ix5 (iv_c (by decide) : IV 1600 1600 1600) (iv_nle c6) (by decide)
          refine lv_aload_n hx hb dX8_append_17 rfl (lv_at hl 0 rfl) ?_
          refine th_get S hK hH inG8 t0 kd_1 rfl 0 (by decide) gm_148 rfl rfl dX8_append_18 (fun v9 hv9 fv9 => ?_)
          obtain ⟨rf10, rfl, trf10⟩ := th_V.ref hv9
          refine lv_aload_n hx hb dX8_append_21 rfl (lv_at hl 0 rfl) ?_
          refine th_getK S hK fv4 inG8 rfl (by decide) gm_155 rfl dX8_append_22 ?_
          refine lv_iload_n hx hb dX8_append_25 rfl (lv_at hl 1 rfl) ?_
          refine lv_iload_n hx hb dX8_append_26 rfl (lv_at hl 2 rfl) ?_
          refine lv_ishr hx hb dX8_append_27 ?_
          refine lv_topi (fun x12 ex12 => ?_)
          have ix12 := iv_top x12
          refine lv_i2b (v := _) hx hb dX8_append_28 rfl ?_
          refine lv_topi (fun x13 ex13 => ?_)
          have ix13 : IV x13 (-128) 127 := by rw [ex13]; exact iv_byte _
          refine th_bast S hK hH hS ⟨11, by decide, trf10⟩ trf10 kd_11 (th_in (hi := 1599) ir8 (by decide)) (fun z => th_iv (iv_nbyte z)) dX8_append_29 (fun H locs hH hS hq1 => ?_)
          have f14 := fv4.kept (hq1 _ (th_ne t0 trf10 (by decide)))
          refine lv_aload_n hx hb dX8_append_30 rfl (lv_at hl 0 rfl) ?_
          refine lv_dup hx hb dX8_append_31 rfl ?_
          refine th_getK S hK f14 inG8 rfl (by decide) gm_155 rfl dX8_append_32 ?_
          refine lv_iconst (v := 1) hx hb dX8_append_35 (by decide) ?_
          refine lv_iadd hx hb dX8_append_36 ?_
          refine lv_topi (fun x16 ex16 => ?_)
          have ix16 : IV x16 1 1600 := by rw [ex16]; exact iv_add ir8 (iv_c (by decide) : IV 1 1 1) (by decide)
          refine th_put S hK hH hS ⟨1, by decide, t0⟩ inG8 tyX8 tyX8_ok nmX8 t0 kd_1 rfl 4 (by decide) gm_155 rfl rfl rfl rfl (th_iv (iv_w ix16 (by decide))) (fun _ _ => trivial) (ty := .int) (by decide +kernel) rfl rfl dX8_append_37 (fun H locs hH hS hq1 hp1 => ?_)
          have f17 := hp1.1
          refine th_iinc S dX8_append_40 hl (k := 2) rfl (by decide) ir3 (by decide) (fun x18 ls ex18 ix18 hl => ?_)
          have hl : lv_has ls 3 [(2, .int x18), (0, .ref a0), (1, .int y1)] := hl
          have ix18 : IV x18 (-8) 16 := ix18
          refine lv_goto (tgt := 3) hx hb dX8_append_43 (by decide) ?_
          exact ih3 H locs ls x18 (iv_w ix18 (by decide)) hH hS (lv_sub hl [1, 2, 0] rfl) (th_down iv3_2 ex18 (by decide) hn3)
  have J0 : ∀ (H : Heap) (locs : List Loc) (ls : Array Slot), th_H D cT T (kd q) H → va_S (th_A T [1, 11]) s.heap H locs → lv_has ls 3 [(0, .ref a0), (1, .int y1)] → W p l e (rmk 0 0) s m [.ref a0, .int y1].toArray below meth c H locs 0 0 (MQ below (th_Q D cT T (kd q) (th_R T none) [1, 11]) [.ref a0, .int y1].toArray s 0 0 (th_A T [1, 11])) (F0 m 0 ls []) := by
    intro H locs ls hH hS hl
    refine lv_bipush (v := 24) hx hb dX8_append_0 (by decide) ?_
    refine lv_istore_n (lv' := [(2, .int 24), (0, .ref a0), (1, .int y1)]) hx hb dX8_append_2 rfl hl (by decide) rfl (fun ls hl => ?_)
    exact J3 ((Int32.toInt 24 + 1 - (-128)).toNat + 1) H locs ls 24 (iv_w (iv_c (by decide) : IV 24 24 24) (by decide)) hH hS (lv_sub hl [1, 2, 0] rfl) (Nat.lt_succ_self _)
  exact J0 s.heap [] ls hH va_S.rf hl

set_option maxRecDepth 100000 in
theorem m_X8_isLetter (l : Launch) (D : va_G) (cT : Nat → ClassId) (T : Nat → Option Nat) (q : Nat → Int) (hq : qok q) (a0 : Nat) (t0 : T a0 = some 1) (y1 : Int32) (j1 : IV y1 (-2147483648) 2147483647) : th_Met l D cT T (kd q) yX8_isLetter cX8_isLetter 2 (some .boolean) (rmk 0 0) [.ref a0, .int y1] (th_RG y1 0 1599) [] := by
  refine th_start (by decide) (Nat.le_of_ble_eq_true rfl) ?_
  intro p e s m below meth c ls S hK hH hr hlocks hnm hl
  have hx := S.1
  have hb := S.2.1
  have hl : lv_has ls 2 [(0, .ref a0), (1, .int y1)] := hl
  have J39_s0_0 : ∀ (H : Heap) (locs : List Loc) (ls : Array Slot), th_H D cT T (kd q) H → va_S (th_A T []) s.heap H locs → lv_has ls 2 [] → W p l e (rmk 0 0) s m [.ref a0, .int y1].toArray below meth c H locs 0 0 (MQ below (th_Q D cT T (kd q) (th_RG y1 0 1599) []) [.ref a0, .int y1].toArray s 0 0 (th_A T [])) (F0 m 39 ls [.int 0]) := by
    intro H locs ls hH hS hl
    exact th_zret S hK hH hS hr hlocks (iv_w (iv_c (by decide) : IV 0 0 0) (by decide)) (th_RG.i (iv_w (iv_c (by decide) : IV 0 0 0) (by decide)) (fun z => absurd rfl z)) dX8_isLetter_39
  have J39_s0_1 : ∀ (H : Heap) (locs : List Loc) (ls : Array Slot), IV y1 0 1599 → th_H D cT T (kd q) H → va_S (th_A T []) s.heap H locs → lv_has ls 2 [] → W p l e (rmk 0 0) s m [.ref a0, .int y1].toArray below meth c H locs 0 0 (MQ below (th_Q D cT T (kd q) (th_RG y1 0 1599) []) [.ref a0, .int y1].toArray s 0 0 (th_A T [])) (F0 m 39 ls [.int 1]) := by
    intro H locs ls f39_y1 hH hS hl
    exact th_zret S hK hH hS hr hlocks (iv_w (iv_c (by decide) : IV 1 1 1) (by decide)) (th_RG.i (iv_w (iv_c (by decide) : IV 1 1 1) (by decide)) (fun _ => f39_y1)) dX8_isLetter_39
  have J38 : ∀ (H : Heap) (locs : List Loc) (ls : Array Slot), th_H D cT T (kd q) H → va_S (th_A T []) s.heap H locs → lv_has ls 2 [] → W p l e (rmk 0 0) s m [.ref a0, .int y1].toArray below meth c H locs 0 0 (MQ below (th_Q D cT T (kd q) (th_RG y1 0 1599) []) [.ref a0, .int y1].toArray s 0 0 (th_A T [])) (F0 m 38 ls []) := by
    intro H locs ls hH hS hl
    refine lv_iconst (v := 0) hx hb dX8_isLetter_38 (by decide) ?_
    exact J39_s0_0 H locs ls  hH hS (lv_sub hl [] rfl)
  have J0 : ∀ (H : Heap) (locs : List Loc) (ls : Array Slot), th_H D cT T (kd q) H → va_S (th_A T []) s.heap H locs → lv_has ls 2 [(0, .ref a0), (1, .int y1)] → W p l e (rmk 0 0) s m [.ref a0, .int y1].toArray below meth c H locs 0 0 (MQ below (th_Q D cT T (kd q) (th_RG y1 0 1599) []) [.ref a0, .int y1].toArray s 0 0 (th_A T [])) (F0 m 0 ls []) := by
    intro H locs ls hH hS hl
    refine lv_iload_n hx hb dX8_isLetter_0 rfl (lv_at hl 1 rfl) ?_
    refine lv_if_lt (tgt := 38) hx hb dX8_isLetter_1 (by decide) (fun c1 => ?_) (fun c1 => ?_)
    · skip
      have ir2 : IV y1 (-2147483648) (-1) := iv_uL j1 (iv_c (by decide) : IV 0 0 0) (iv_lt c1) (by decide)
      exact J38 H locs ls  hH hS (lv_sub hl [] rfl)
    · skip
      have ir3 : IV y1 0 2147483647 := iv_vR (iv_c (by decide) : IV 0 0 0) j1 (iv_nlt c1) (by decide)
      refine lv_iload_n hx hb dX8_isLetter_4 rfl (lv_at hl 1 rfl) ?_
      refine lv_aload_n hx hb dX8_isLetter_5 rfl (lv_at hl 0 rfl) ?_
      refine th_get S hK hH inG8 t0 kd_1 rfl 4 (by decide) gm_155 rfl rfl dX8_isLetter_6 (fun v4 hv4 fv4 => ?_)
      obtain ⟨x5, rfl, ix5⟩ := th_V.int hv4
      refine lv_icmp_ge (tgt := 38) hx hb dX8_isLetter_9 (by decide) (fun c6 => ?_) (fun c6 => ?_)
      · skip
        exact J38 H locs ls  hH hS (lv_sub hl [] rfl)
      · skip
        have ir7 : IV y1 0 1599 := iv_uL ir3 ix5 (iv_nle c6) (by decide)
        have ir8 : IV x5 1 1600 := iv_uR ir3 ix5 (iv_nle c6) (by decide)
        refine lv_aload_n hx hb dX8_isLetter_12 rfl (lv_at hl 0 rfl) ?_
        refine th_get S hK hH inG8 t0 kd_1 rfl 0 (by decide) gm_148 rfl rfl dX8_isLetter_13 (fun v9 hv9 fv9 => ?_)
        obtain ⟨rf10, rfl, trf10⟩ := th_V.ref hv9
        refine lv_iload_n hx hb dX8_isLetter_16 rfl (lv_at hl 1 rfl) ?_
        refine th_bald S hK hH trf10 kd_11 (th_in (hi := 1599) ir7 (by decide)) dX8_isLetter_17 (fun v11 hv11 => ?_)
        obtain ⟨x12, rfl, ix12⟩ := th_V.int hv11
        refine lv_bipush (v := 97) hx hb dX8_isLetter_18 (by decide) ?_
        refine lv_icmp_lt (tgt := 38) hx hb dX8_isLetter_20 (by decide) (fun c13 => ?_) (fun c13 => ?_)
        · skip
          have ir14 : IV x12 (-128) 96 := iv_uL ix12 (iv_c (by decide) : IV 97 97 97) (iv_lt c13) (by decide)
          exact J38 H locs ls  hH hS (lv_sub hl [] rfl)
        · skip
          have ir15 : IV x12 97 127 := iv_vR (iv_c (by decide) : IV 97 97 97) ix12 (iv_nlt c13) (by decide)
          refine lv_aload_n hx hb dX8_isLetter_23 rfl (lv_at hl 0 rfl) ?_
          refine th_getK S hK fv9 inG8 rfl (by decide) gm_148 rfl dX8_isLetter_24 ?_
          refine lv_iload_n hx hb dX8_isLetter_27 rfl (lv_at hl 1 rfl) ?_
          refine th_bald S hK hH trf10 kd_11 (th_in (hi := 1599) ir7 (by decide)) dX8_isLetter_28 (fun v17 hv17 => ?_)
          obtain ⟨x18, rfl, ix18⟩ := th_V.int hv17
          refine lv_bipush (v := 122) hx hb dX8_isLetter_29 (by decide) ?_
          refine lv_icmp_gt (tgt := 38) hx hb dX8_isLetter_31 (by decide) (fun c19 => ?_) (fun c19 => ?_)
          · skip
            have ir20 : IV x18 123 127 := iv_uR (iv_c (by decide) : IV 122 122 122) ix18 (iv_lt c19) (by decide)
            exact J38 H locs ls  hH hS (lv_sub hl [] rfl)
          · skip
            have ir21 : IV x18 (-128) 122 := iv_vL ix18 (iv_c (by decide) : IV 122 122 122) (iv_nlt c19) (by decide)
            refine lv_iconst (v := 1) hx hb dX8_isLetter_34 (by decide) ?_
            refine lv_goto (tgt := 39) hx hb dX8_isLetter_35 (by decide) ?_
            exact J39_s0_1 H locs ls ir7 hH hS (lv_sub hl [] rfl)
  exact J0 s.heap [] ls hH va_S.rf hl

set_option maxRecDepth 100000 in
theorem m_X8_isDigit (l : Launch) (D : va_G) (cT : Nat → ClassId) (T : Nat → Option Nat) (q : Nat → Int) (hq : qok q) (a0 : Nat) (t0 : T a0 = some 1) (y1 : Int32) (j1 : IV y1 (-2147483648) 2147483647) : th_Met l D cT T (kd q) yX8_isDigit cX8_isDigit 2 (some .boolean) (rmk 0 0) [.ref a0, .int y1] (th_RG y1 0 1599) [] := by
  refine th_start (by decide) (Nat.le_of_ble_eq_true rfl) ?_
  intro p e s m below meth c ls S hK hH hr hlocks hnm hl
  have hx := S.1
  have hb := S.2.1
  have hl : lv_has ls 2 [(0, .ref a0), (1, .int y1)] := hl
  have J39_s0_0 : ∀ (H : Heap) (locs : List Loc) (ls : Array Slot), th_H D cT T (kd q) H → va_S (th_A T []) s.heap H locs → lv_has ls 2 [] → W p l e (rmk 0 0) s m [.ref a0, .int y1].toArray below meth c H locs 0 0 (MQ below (th_Q D cT T (kd q) (th_RG y1 0 1599) []) [.ref a0, .int y1].toArray s 0 0 (th_A T [])) (F0 m 39 ls [.int 0]) := by
    intro H locs ls hH hS hl
    exact th_zret S hK hH hS hr hlocks (iv_w (iv_c (by decide) : IV 0 0 0) (by decide)) (th_RG.i (iv_w (iv_c (by decide) : IV 0 0 0) (by decide)) (fun z => absurd rfl z)) dX8_isDigit_39
  have J39_s0_1 : ∀ (H : Heap) (locs : List Loc) (ls : Array Slot), IV y1 0 1599 → th_H D cT T (kd q) H → va_S (th_A T []) s.heap H locs → lv_has ls 2 [] → W p l e (rmk 0 0) s m [.ref a0, .int y1].toArray below meth c H locs 0 0 (MQ below (th_Q D cT T (kd q) (th_RG y1 0 1599) []) [.ref a0, .int y1].toArray s 0 0 (th_A T [])) (F0 m 39 ls [.int 1]) := by
    intro H locs ls f39_y1 hH hS hl
    exact th_zret S hK hH hS hr hlocks (iv_w (iv_c (by decide) : IV 1 1 1) (by decide)) (th_RG.i (iv_w (iv_c (by decide) : IV 1 1 1) (by decide)) (fun _ => f39_y1)) dX8_isDigit_39
  have J38 : ∀ (H : Heap) (locs : List Loc) (ls : Array Slot), th_H D cT T (kd q) H → va_S (th_A T []) s.heap H locs → lv_has ls 2 [] → W p l e (rmk 0 0) s m [.ref a0, .int y1].toArray below meth c H locs 0 0 (MQ below (th_Q D cT T (kd q) (th_RG y1 0 1599) []) [.ref a0, .int y1].toArray s 0 0 (th_A T [])) (F0 m 38 ls []) := by
    intro H locs ls hH hS hl
    refine lv_iconst (v := 0) hx hb dX8_isDigit_38 (by decide) ?_
    exact J39_s0_0 H locs ls  hH hS (lv_sub hl [] rfl)
  have J0 : ∀ (H : Heap) (locs : List Loc) (ls : Array Slot), th_H D cT T (kd q) H → va_S (th_A T []) s.heap H locs → lv_has ls 2 [(0, .ref a0), (1, .int y1)] → W p l e (rmk 0 0) s m [.ref a0, .int y1].toArray below meth c H locs 0 0 (MQ below (th_Q D cT T (kd q) (th_RG y1 0 1599) []) [.ref a0, .int y1].toArray s 0 0 (th_A T [])) (F0 m 0 ls []) := by
    intro H locs ls hH hS hl
    refine lv_iload_n hx hb dX8_isDigit_0 rfl (lv_at hl 1 rfl) ?_
    refine lv_if_lt (tgt := 38) hx hb dX8_isDigit_1 (by decide) (fun c1 => ?_) (fun c1 => ?_)
    · skip
      have ir2 : IV y1 (-2147483648) (-1) := iv_uL j1 (iv_c (by decide) : IV 0 0 0) (iv_lt c1) (by decide)
      exact J38 H locs ls  hH hS (lv_sub hl [] rfl)
    · skip
      have ir3 : IV y1 0 2147483647 := iv_vR (iv_c (by decide) : IV 0 0 0) j1 (iv_nlt c1) (by decide)
      refine lv_iload_n hx hb dX8_isDigit_4 rfl (lv_at hl 1 rfl) ?_
      refine lv_aload_n hx hb dX8_isDigit_5 rfl (lv_at hl 0 rfl) ?_
      refine th_get S hK hH inG8 t0 kd_1 rfl 4 (by decide) gm_155 rfl rfl dX8_isDigit_6 (fun v4 hv4 fv4 => ?_)
      obtain ⟨x5, rfl, ix5⟩ := th_V.int hv4
      refine lv_icmp_ge (tgt := 38) hx hb dX8_isDigit_9 (by decide) (fun c6 => ?_) (fun c6 => ?_)
      · skip
        exact J38 H locs ls  hH hS (lv_sub hl [] rfl)
      · skip
        have ir7 : IV y1 0 1599 := iv_uL ir3 ix5 (iv_nle c6) (by decide)
        have ir8 : IV x5 1 1600 := iv_uR ir3 ix5 (iv_nle c6) (by decide)
        refine lv_aload_n hx hb dX8_isDigit_12 rfl (lv_at hl 0 rfl) ?_
        refine th_get S hK hH inG8 t0 kd_1 rfl 0 (by decide) gm_148 rfl rfl dX8_isDigit_13 (fun v9 hv9 fv9 => ?_)
        obtain ⟨rf10, rfl, trf10⟩ := th_V.ref hv9
        refine lv_iload_n hx hb dX8_isDigit_16 rfl (lv_at hl 1 rfl) ?_
        refine th_bald S hK hH trf10 kd_11 (th_in (hi := 1599) ir7 (by decide)) dX8_isDigit_17 (fun v11 hv11 => ?_)
        obtain ⟨x12, rfl, ix12⟩ := th_V.int hv11
        refine lv_bipush (v := 48) hx hb dX8_isDigit_18 (by decide) ?_
        refine lv_icmp_lt (tgt := 38) hx hb dX8_isDigit_20 (by decide) (fun c13 => ?_) (fun c13 => ?_)
        · skip
          have ir14 : IV x12 (-128) 47 := iv_uL ix12 (iv_c (by decide) : IV 48 48 48) (iv_lt c13) (by decide)
          exact J38 H locs ls  hH hS (lv_sub hl [] rfl)
        · skip
          have ir15 : IV x12 48 127 := iv_vR (iv_c (by decide) : IV 48 48 48) ix12 (iv_nlt c13) (by decide)
          refine lv_aload_n hx hb dX8_isDigit_23 rfl (lv_at hl 0 rfl) ?_
          refine th_getK S hK fv9 inG8 rfl (by decide) gm_148 rfl dX8_isDigit_24 ?_
          refine lv_iload_n hx hb dX8_isDigit_27 rfl (lv_at hl 1 rfl) ?_
          refine th_bald S hK hH trf10 kd_11 (th_in (hi := 1599) ir7 (by decide)) dX8_isDigit_28 (fun v17 hv17 => ?_)
          obtain ⟨x18, rfl, ix18⟩ := th_V.int hv17
          refine lv_bipush (v := 57) hx hb dX8_isDigit_29 (by decide) ?_
          refine lv_icmp_gt (tgt := 38) hx hb dX8_isDigit_31 (by decide) (fun c19 => ?_) (fun c19 => ?_)
          · skip
            have ir20 : IV x18 58 127 := iv_uR (iv_c (by decide) : IV 57 57 57) ix18 (iv_lt c19) (by decide)
            exact J38 H locs ls  hH hS (lv_sub hl [] rfl)
          · skip
            have ir21 : IV x18 (-128) 57 := iv_vL ix18 (iv_c (by decide) : IV 57 57 57) (iv_nlt c19) (by decide)
            refine lv_iconst (v := 1) hx hb dX8_isDigit_34 (by decide) ?_
            refine lv_goto (tgt := 39) hx hb dX8_isDigit_35 (by decide) ?_
            exact J39_s0_1 H locs ls ir7 hH hS (lv_sub hl [] rfl)
  exact J0 s.heap [] ls hH va_S.rf hl
