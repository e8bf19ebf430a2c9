theorem dX6_number_0 : decode cX6_number 0 = .ok (.aload_n 0, 1) := by decide +kernel
theorem dX6_number_1 : decode cX6_number 1 = .ok (.invokevirtual 43, 3) := by decide +kernel
theorem dX6_number_4 : decode cX6_number 4 = .ok (.iconst 3, 1) := by decide +kernel
theorem dX6_number_5 : decode cX6_number 5 = .ok (.if_icmp .eq 11, 3) := by decide +kernel
theorem dX6_number_8 : decode cX6_number 8 = .ok (.aload_n 0, 1) := by decide +kernel
theorem dX6_number_9 : decode cX6_number 9 = .ok (.iconst 2, 1) := by decide +kernel
theorem dX6_number_10 : decode cX6_number 10 = .ok (.invokevirtual 51, 3) := by decide +kernel
theorem dX6_number_13 : decode cX6_number 13 = .ok (.pop, 1) := by decide +kernel
theorem dX6_number_14 : decode cX6_number 14 = .ok (.iconst (-1), 1) := by decide +kernel
theorem dX6_number_15 : decode cX6_number 15 = .ok (.ireturn, 1) := by decide +kernel
theorem dX6_number_16 : decode cX6_number 16 = .ok (.aload_n 0, 1) := by decide +kernel
theorem dX6_number_17 : decode cX6_number 17 = .ok (.invokevirtual 187, 3) := by decide +kernel
theorem dX6_number_20 : decode cX6_number 20 = .ok (.l2i, 1) := by decide +kernel
theorem dX6_number_21 : decode cX6_number 21 = .ok (.istore_n 3, 1) := by decide +kernel
theorem dX6_number_22 : decode cX6_number 22 = .ok (.iload_n 3, 1) := by decide +kernel
theorem dX6_number_23 : decode cX6_number 23 = .ok (.iload_n 1, 1) := by decide +kernel
theorem dX6_number_24 : decode cX6_number 24 = .ok (.if_icmp .lt 8, 3) := by decide +kernel
theorem dX6_number_27 : decode cX6_number 27 = .ok (.iload_n 3, 1) := by decide +kernel
theorem dX6_number_28 : decode cX6_number 28 = .ok (.iload_n 2, 1) := by decide +kernel
theorem dX6_number_29 : decode cX6_number 29 = .ok (.if_icmp .le 11, 3) := by decide +kernel
theorem dX6_number_32 : decode cX6_number 32 = .ok (.aload_n 0, 1) := by decide +kernel
theorem dX6_number_33 : decode cX6_number 33 = .ok (.iconst 4, 1) := by decide +kernel
theorem dX6_number_34 : decode cX6_number 34 = .ok (.invokevirtual 51, 3) := by decide +kernel
theorem dX6_number_37 : decode cX6_number 37 = .ok (.pop, 1) := by decide +kernel
theorem dX6_number_38 : decode cX6_number 38 = .ok (.iconst (-1), 1) := by decide +kernel
theorem dX6_number_39 : decode cX6_number 39 = .ok (.ireturn, 1) := by decide +kernel
theorem dX6_number_40 : decode cX6_number 40 = .ok (.aload_n 0, 1) := by decide +kernel
theorem dX6_number_41 : decode cX6_number 41 = .ok (.dup, 1) := by decide +kernel
theorem dX6_number_42 : decode cX6_number 42 = .ok (.getfield 18, 3) := by decide +kernel
theorem dX6_number_45 : decode cX6_number 45 = .ok (.iconst 1, 1) := by decide +kernel
theorem dX6_number_46 : decode cX6_number 46 = .ok (.iadd, 1) := by decide +kernel
theorem dX6_number_47 : decode cX6_number 47 = .ok (.putfield 18, 3) := by decide +kernel
theorem dX6_number_50 : decode cX6_number 50 = .ok (.iload_n 3, 1) := by decide +kernel
theorem dX6_number_51 : decode cX6_number 51 = .ok (.ireturn, 1) := by decide +kernel
theorem dX6_foodLine_0 : decode cX6_foodLine 0 = .ok (.aload_n 0, 1) := by decide +kernel
theorem dX6_foodLine_1 : decode cX6_foodLine 1 = .ok (.aload_n 0, 1) := by decide +kernel
theorem dX6_foodLine_2 : decode cX6_foodLine 2 = .ok (.getfield 12, 3) := by decide +kernel
theorem dX6_foodLine_5 : decode cX6_foodLine 5 = .ok (.getfield 96, 3) := by decide +kernel
theorem dX6_foodLine_8 : decode cX6_foodLine 8 = .ok (.aload_n 0, 1) := by decide +kernel
theorem dX6_foodLine_9 : decode cX6_foodLine 9 = .ok (.getfield 12, 3) := by decide +kernel
theorem dX6_foodLine_12 : decode cX6_foodLine 12 = .ok (.getfield 100, 3) := by decide +kernel
theorem dX6_foodLine_15 : decode cX6_foodLine 15 = .ok (.invokevirtual 103, 3) := by decide +kernel
theorem dX6_foodLine_18 : decode cX6_foodLine 18 = .ok (.ifCond .ne 5, 3) := by decide +kernel
theorem dX6_foodLine_21 : decode cX6_foodLine 21 = .ok (.iconst 0, 1) := by decide +kernel
theorem dX6_foodLine_22 : decode cX6_foodLine 22 = .ok (.ireturn, 1) := by decide +kernel
theorem dX6_foodLine_23 : decode cX6_foodLine 23 = .ok (.aload_n 0, 1) := by decide +kernel
theorem dX6_foodLine_24 : decode cX6_foodLine 24 = .ok (.iconst 0, 1) := by decide +kernel
theorem dX6_foodLine_25 : decode cX6_foodLine 25 = .ok (.bipush 99, 2) := by decide +kernel
theorem dX6_foodLine_27 : decode cX6_foodLine 27 = .ok (.invokevirtual 107, 3) := by decide +kernel
theorem dX6_foodLine_30 : decode cX6_foodLine 30 = .ok (.istore_n 1, 1) := by decide +kernel
theorem dX6_foodLine_31 : decode cX6_foodLine 31 = .ok (.iload_n 1, 1) := by decide +kernel
theorem dX6_foodLine_32 : decode cX6_foodLine 32 = .ok (.ifCond .ge 5, 3) := by decide +kernel
theorem dX6_foodLine_35 : decode cX6_foodLine 35 = .ok (.iconst 0, 1) := by decide +kernel
theorem dX6_foodLine_36 : decode cX6_foodLine 36 = .ok (.ireturn, 1) := by decide +kernel
theorem dX6_foodLine_37 : decode cX6_foodLine 37 = .ok (.aload_n 0, 1) := by decide +kernel
theorem dX6_foodLine_38 : decode cX6_foodLine 38 = .ok (.getfield 12, 3) := by decide +kernel
theorem dX6_foodLine_41 : decode cX6_foodLine 41 = .ok (.getfield 80, 3) := by decide +kernel
theorem dX6_foodLine_44 : decode cX6_foodLine 44 = .ok (.getfield 84, 3) := by decide +kernel
theorem dX6_foodLine_47 : decode cX6_foodLine 47 = .ok (.iconst 0, 1) := by decide +kernel
theorem dX6_foodLine_48 : decode cX6_foodLine 48 = .ok (.aload_n 0, 1) := by decide +kernel
theorem dX6_foodLine_49 : decode cX6_foodLine 49 = .ok (.getfield 12, 3) := by decide +kernel
theorem dX6_foodLine_52 : decode cX6_foodLine 52 = .ok (.getfield 100, 3) := by decide +kernel
theorem dX6_foodLine_55 : decode cX6_foodLine 55 = .ok (.iadd, 1) := by decide +kernel
theorem dX6_foodLine_56 : decode cX6_foodLine 56 = .ok (.iload_n 1, 1) := by decide +kernel
theorem dX6_foodLine_57 : decode cX6_foodLine 57 = .ok (.iastore, 1) := by decide +kernel
theorem dX6_foodLine_58 : decode cX6_foodLine 58 = .ok (.aload_n 0, 1) := by decide +kernel
theorem dX6_foodLine_59 : decode cX6_foodLine 59 = .ok (.getfield 12, 3) := by decide +kernel
theorem dX6_foodLine_62 : decode cX6_foodLine 62 = .ok (.dup, 1) := by decide +kernel
theorem dX6_foodLine_63 : decode cX6_foodLine 63 = .ok (.getfield 100, 3) := by decide +kernel
theorem dX6_foodLine_66 : decode cX6_foodLine 66 = .ok (.iconst 1, 1) := by decide +kernel
theorem dX6_foodLine_67 : decode cX6_foodLine 67 = .ok (.iadd, 1) := by decide +kernel
theorem dX6_foodLine_68 : decode cX6_foodLine 68 = .ok (.putfield 100, 3) := by decide +kernel
theorem dX6_foodLine_71 : decode cX6_foodLine 71 = .ok (.iconst 1, 1) := by decide +kernel
theorem dX6_foodLine_72 : decode cX6_foodLine 72 = .ok (.ireturn, 1) := by decide +kernel
theorem dX6_take_0 : decode cX6_take 0 = .ok (.aload_n 0, 1) := by decide +kernel
theorem dX6_take_1 : decode cX6_take 1 = .ok (.invokevirtual 43, 3) := by decide +kernel
theorem dX6_take_4 : decode cX6_take 4 = .ok (.iload_n 1, 1) := by decide +kernel
theorem dX6_take_5 : decode cX6_take 5 = .ok (.if_icmp .eq 9, 3) := by decide +kernel
theorem dX6_take_8 : decode cX6_take 8 = .ok (.aload_n 0, 1) := by decide +kernel
theorem dX6_take_9 : decode cX6_take 9 = .ok (.iconst 2, 1) := by decide +kernel
theorem dX6_take_10 : decode cX6_take 10 = .ok (.invokevirtual 51, 3) := by decide +kernel
theorem dX6_take_13 : decode cX6_take 13 = .ok (.ireturn, 1) := by decide +kernel
theorem dX6_take_14 : decode cX6_take 14 = .ok (.aload_n 0, 1) := by decide +kernel
theorem dX6_take_15 : decode cX6_take 15 = .ok (.dup, 1) := by decide +kernel
theorem dX6_take_16 : decode cX6_take 16 = .ok (.getfield 18, 3) := by decide +kernel
theorem dX6_take_19 : decode cX6_take 19 = .ok (.iconst 1, 1) := by decide +kernel
theorem dX6_take_20 : decode cX6_take 20 = .ok (.iadd, 1) := by decide +kernel
theorem dX6_take_21 : decode cX6_take 21 = .ok (.putfield 18, 3) := by decide +kernel
theorem dX6_take_24 : decode cX6_take 24 = .ok (.iconst 1, 1) := by decide +kernel
theorem dX6_take_25 : decode cX6_take 25 = .ok (.ireturn, 1) := by decide +kernel
theorem dX6_levelOf_0 : decode cX6_levelOf 0 = .ok (.iload_n 0, 1) := by decide +kernel
theorem dX6_levelOf_1 : decode cX6_levelOf 1 = .ok (.lookupswitch 101 #[(37, 99), (42, 99), (43, 97), (45, 97), (47, 99), (60, 95), (61, 95), (62, 95), (147, 91), (148, 93)], 91) := by decide +kernel
theorem dX6_levelOf_92 : decode cX6_levelOf 92 = .ok (.iconst 0, 1) := by decide +kernel
theorem dX6_levelOf_93 : decode cX6_levelOf 93 = .ok (.ireturn, 1) := by decide +kernel
theorem dX6_levelOf_94 : decode cX6_levelOf 94 = .ok (.iconst 1, 1) := by decide +kernel
theorem dX6_levelOf_95 : decode cX6_levelOf 95 = .ok (.ireturn, 1) := by decide +kernel
theorem dX6_levelOf_96 : decode cX6_levelOf 96 = .ok (.iconst 2, 1) := by decide +kernel
theorem dX6_levelOf_97 : decode cX6_levelOf 97 = .ok (.ireturn, 1) := by decide +kernel
theorem dX6_levelOf_98 : decode cX6_levelOf 98 = .ok (.iconst 3, 1) := by decide +kernel
theorem dX6_levelOf_99 : decode cX6_levelOf 99 = .ok (.ireturn, 1) := by decide +kernel
theorem dX6_levelOf_100 : decode cX6_levelOf 100 = .ok (.iconst 4, 1) := by decide +kernel
theorem dX6_levelOf_101 : decode cX6_levelOf 101 = .ok (.ireturn, 1) := by decide +kernel
theorem dX6_levelOf_102 : decode cX6_levelOf 102 = .ok (.iconst (-1), 1) := by decide +kernel
theorem dX6_levelOf_103 : decode cX6_levelOf 103 = .ok (.ireturn, 1) := by decide +kernel
theorem dX6_unit_0 : decode cX6_unit 0 = .ok (.aload_n 0, 1) := by decide +kernel
theorem dX6_unit_1 : decode cX6_unit 1 = .ok (.invokevirtual 43, 3) := by decide +kernel
theorem dX6_unit_4 : decode cX6_unit 4 = .ok (.istore_n 2, 1) := by decide +kernel
theorem dX6_unit_5 : decode cX6_unit 5 = .ok (.iload_n 2, 1) := by decide +kernel
theorem dX6_unit_6 : decode cX6_unit 6 = .ok (.sipush 136, 3) := by decide +kernel
theorem dX6_unit_9 : decode cX6_unit 9 = .ok (.if_icmp .lt 14, 3) := by decide +kernel
theorem dX6_unit_12 : decode cX6_unit 12 = .ok (.iload_n 2, 1) := by decide +kernel
theorem dX6_unit_13 : decode cX6_unit 13 = .ok (.sipush 142, 3) := by decide +kernel
theorem dX6_unit_16 : decode cX6_unit 16 = .ok (.if_icmp .gt 7, 3) := by decide +kernel
theorem dX6_unit_19 : decode cX6_unit 19 = .ok (.iconst 1, 1) := by decide +kernel
theorem dX6_unit_20 : decode cX6_unit 20 = .ok (.goto 4, 3) := by decide +kernel
theorem dX6_unit_23 : decode cX6_unit 23 = .ok (.iconst 0, 1) := by decide +kernel
theorem dX6_unit_24 : decode cX6_unit 24 = .ok (.istore_n 3, 1) := by decide +kernel
theorem dX6_unit_25 : decode cX6_unit 25 = .ok (.iload_n 2, 1) := by decide +kernel
theorem dX6_unit_26 : decode cX6_unit 26 = .ok (.iconst 3, 1) := by decide +kernel
theorem dX6_unit_27 : decode cX6_unit 27 = .ok (.if_icmp .eq 19, 3) := by decide +kernel
theorem dX6_unit_30 : decode cX6_unit 30 = .ok (.iload_n 2, 1) := by decide +kernel
theorem dX6_unit_31 : decode cX6_unit 31 = .ok (.bipush 40, 2) := by decide +kernel
theorem dX6_unit_33 : decode cX6_unit 33 = .ok (.if_icmp .eq 13, 3) := by decide +kernel
theorem dX6_unit_36 : decode cX6_unit 36 = .ok (.iload_n 3, 1) := by decide +kernel
theorem dX6_unit_37 : decode cX6_unit 37 = .ok (.ifCond .ne 9, 3) := by decide +kernel
theorem dX6_unit_40 : decode cX6_unit 40 = .ok (.aload_n 0, 1) := by decide +kernel
theorem dX6_unit_41 : decode cX6_unit 41 = .ok (.iconst 2, 1) := by decide +kernel
theorem dX6_unit_42 : decode cX6_unit 42 = .ok (.invokevirtual 51, 3) := by decide +kernel
theorem dX6_unit_45 : decode cX6_unit 45 = .ok (.ireturn, 1) := by decide +kernel
theorem dX6_unit_46 : decode cX6_unit 46 = .ok (.aload_n 0, 1) := by decide +kernel
theorem dX6_unit_47 : decode cX6_unit 47 = .ok (.getfield 22, 3) := by decide +kernel
theorem dX6_unit_50 : decode cX6_unit 50 = .ok (.bipush 30, 2) := by decide +kernel
theorem dX6_unit_52 : decode cX6_unit 52 = .ok (.if_icmp .ge 18, 3) := by decide +kernel
theorem dX6_unit_55 : decode cX6_unit 55 = .ok (.aload_n 0, 1) := by decide +kernel
theorem dX6_unit_56 : decode cX6_unit 56 = .ok (.getfield 12, 3) := by decide +kernel
theorem dX6_unit_59 : decode cX6_unit 59 = .ok (.getfield 157, 3) := by decide +kernel
theorem dX6_unit_62 : decode cX6_unit 62 = .ok (.getfield 184, 3) := by decide +kernel
theorem dX6_unit_65 : decode cX6_unit 65 = .ok (.bipush 90, 2) := by decide +kernel
theorem dX6_unit_67 : decode cX6_unit 67 = .ok (.if_icmp .lt 9, 3) := by decide +kernel
theorem dX6_unit_70 : decode cX6_unit 70 = .ok (.aload_n 0, 1) := by decide +kernel
theorem dX6_unit_71 : decode cX6_unit 71 = .ok (.iconst 2, 1) := by decide +kernel
theorem dX6_unit_72 : decode cX6_unit 72 = .ok (.invokevirtual 51, 3) := by decide +kernel
theorem dX6_unit_75 : decode cX6_unit 75 = .ok (.ireturn, 1) := by decide +kernel
theorem dX6_unit_76 : decode cX6_unit 76 = .ok (.iload_n 2, 1) := by decide +kernel
theorem dX6_unit_77 : decode cX6_unit 77 = .ok (.bipush 40, 2) := by decide +kernel
theorem dX6_unit_79 : decode cX6_unit 79 = .ok (.if_icmp .ne 15, 3) := by decide +kernel
theorem dX6_unit_82 : decode cX6_unit 82 = .ok (.iload_n 1, 1) := by decide +kernel
theorem dX6_unit_83 : decode cX6_unit 83 = .ok (.bipush 7, 2) := by decide +kernel
theorem dX6_unit_85 : decode cX6_unit 85 = .ok (.if_icmp .lt 9, 3) := by decide +kernel
theorem dX6_unit_88 : decode cX6_unit 88 = .ok (.aload_n 0, 1) := by decide +kernel
theorem dX6_unit_89 : decode cX6_unit 89 = .ok (.iconst 2, 1) := by decide +kernel
theorem dX6_unit_90 : decode cX6_unit 90 = .ok (.invokevirtual 51, 3) := by decide +kernel
theorem dX6_unit_93 : decode cX6_unit 93 = .ok (.ireturn, 1) := by decide +kernel
theorem dX6_unit_94 : decode cX6_unit 94 = .ok (.aload_n 0, 1) := by decide +kernel
theorem dX6_unit_95 : decode cX6_unit 95 = .ok (.dup, 1) := by decide +kernel
theorem dX6_unit_96 : decode cX6_unit 96 = .ok (.getfield 22, 3) := by decide +kernel
theorem dX6_unit_99 : decode cX6_unit 99 = .ok (.iconst 1, 1) := by decide +kernel
theorem dX6_unit_100 : decode cX6_unit 100 = .ok (.iadd, 1) := by decide +kernel
theorem dX6_unit_101 : decode cX6_unit 101 = .ok (.putfield 22, 3) := by decide +kernel
theorem dX6_unit_104 : decode cX6_unit 104 = .ok (.aload_n 0, 1) := by decide +kernel
theorem dX6_unit_105 : decode cX6_unit 105 = .ok (.getfield 12, 3) := by decide +kernel
theorem dX6_unit_108 : decode cX6_unit 108 = .ok (.getfield 157, 3) := by decide +kernel
theorem dX6_unit_111 : decode cX6_unit 111 = .ok (.dup, 1) := by decide +kernel
theorem dX6_unit_112 : decode cX6_unit 112 = .ok (.getfield 184, 3) := by decide +kernel
theorem dX6_unit_115 : decode cX6_unit 115 = .ok (.iconst 1, 1) := by decide +kernel
theorem dX6_unit_116 : decode cX6_unit 116 = .ok (.iadd, 1) := by decide +kernel
theorem dX6_unit_117 : decode cX6_unit 117 = .ok (.putfield 184, 3) := by decide +kernel
theorem dX6_unit_120 : decode cX6_unit 120 = .ok (.iload_n 2, 1) := by decide +kernel
theorem dX6_unit_121 : decode cX6_unit 121 = .ok (.bipush 40, 2) := by decide +kernel
theorem dX6_unit_123 : decode cX6_unit 123 = .ok (.if_icmp .ne 39, 3) := by decide +kernel
theorem dX6_unit_126 : decode cX6_unit 126 = .ok (.aload_n 0, 1) := by decide +kernel
theorem dX6_unit_127 : decode cX6_unit 127 = .ok (.dup, 1) := by decide +kernel
theorem dX6_unit_128 : decode cX6_unit 128 = .ok (.getfield 18, 3) := by decide +kernel
theorem dX6_unit_131 : decode cX6_unit 131 = .ok (.iconst 1, 1) := by decide +kernel
theorem dX6_unit_132 : decode cX6_unit 132 = .ok (.iadd, 1) := by decide +kernel
theorem dX6_unit_133 : decode cX6_unit 133 = .ok (.putfield 18, 3) := by decide +kernel
theorem dX6_unit_136 : decode cX6_unit 136 = .ok (.aload_n 0, 1) := by decide +kernel
theorem dX6_unit_137 : decode cX6_unit 137 = .ok (.iconst 0, 1) := by decide +kernel
theorem dX6_unit_138 : decode cX6_unit 138 = .ok (.iload_n 1, 1) := by decide +kernel
theorem dX6_unit_139 : decode cX6_unit 139 = .ok (.iconst 1, 1) := by decide +kernel
theorem dX6_unit_140 : decode cX6_unit 140 = .ok (.iadd, 1) := by decide +kernel
theorem dX6_unit_141 : decode cX6_unit 141 = .ok (.invokevirtual 167, 3) := by decide +kernel
theorem dX6_unit_144 : decode cX6_unit 144 = .ok (.ifCond .eq 16, 3) := by decide +kernel
theorem dX6_unit_147 : decode cX6_unit 147 = .ok (.aload_n 0, 1) := by decide +kernel
theorem dX6_unit_148 : decode cX6_unit 148 = .ok (.bipush 41, 2) := by decide +kernel
theorem dX6_unit_150 : decode cX6_unit 150 = .ok (.invokevirtual 93, 3) := by decide +kernel
theorem dX6_unit_153 : decode cX6_unit 153 = .ok (.ifCond .eq 7, 3) := by decide +kernel
theorem dX6_unit_156 : decode cX6_unit 156 = .ok (.iconst 1, 1) := by decide +kernel
theorem dX6_unit_157 : decode cX6_unit 157 = .ok (.goto 4, 3) := by decide +kernel
theorem dX6_unit_160 : decode cX6_unit 160 = .ok (.iconst 0, 1) := by decide +kernel
theorem dX6_unit_161 : decode cX6_unit 161 = .ok (.ireturn, 1) := by decide +kernel
theorem dX6_unit_162 : decode cX6_unit 162 = .ok (.aload_n 0, 1) := by decide +kernel
theorem dX6_unit_163 : decode cX6_unit 163 = .ok (.getfield 12, 3) := by decide +kernel
theorem dX6_unit_166 : decode cX6_unit 166 = .ok (.getfield 157, 3) := by decide +kernel
theorem dX6_unit_169 : decode cX6_unit 169 = .ok (.iload_n 3, 1) := by decide +kernel
theorem dX6_unit_170 : decode cX6_unit 170 = .ok (.ifCond .eq 8, 3) := by decide +kernel
theorem dX6_unit_173 : decode cX6_unit 173 = .ok (.iload_n 2, 1) := by decide +kernel
theorem dX6_unit_174 : decode cX6_unit 174 = .ok (.ineg, 1) := by decide +kernel
theorem dX6_unit_175 : decode cX6_unit 175 = .ok (.goto 8, 3) := by decide +kernel
theorem dX6_unit_178 : decode cX6_unit 178 = .ok (.aload_n 0, 1) := by decide +kernel
theorem dX6_unit_179 : decode cX6_unit 179 = .ok (.invokevirtual 187, 3) := by decide +kernel
theorem dX6_unit_182 : decode cX6_unit 182 = .ok (.l2i, 1) := by decide +kernel
theorem dX6_unit_183 : decode cX6_unit 183 = .ok (.invokevirtual 174, 3) := by decide +kernel
theorem dX6_unit_186 : decode cX6_unit 186 = .ok (.aload_n 0, 1) := by decide +kernel
theorem dX6_unit_187 : decode cX6_unit 187 = .ok (.dup, 1) := by decide +kernel
theorem dX6_unit_188 : decode cX6_unit 188 = .ok (.getfield 18, 3) := by decide +kernel
theorem dX6_unit_191 : decode cX6_unit 191 = .ok (.iconst 1, 1) := by decide +kernel
theorem dX6_unit_192 : decode cX6_unit 192 = .ok (.iadd, 1) := by decide +kernel
theorem dX6_unit_193 : decode cX6_unit 193 = .ok (.putfield 18, 3) := by decide +kernel
theorem dX6_unit_196 : decode cX6_unit 196 = .ok (.iconst 1, 1) := by decide +kernel
theorem dX6_unit_197 : decode cX6_unit 197 = .ok (.ireturn, 1) := by decide +kernel
theorem dX6_climb_0 : decode cX6_climb 0 = .ok (.iconst 4, 1) := by decide +kernel
theorem dX6_climb_1 : decode cX6_climb 1 = .ok (.istore_n 3, 1) := by decide +kernel
theorem dX6_climb_2 : decode cX6_climb 2 = .ok (.aload_n 0, 1) := by decide +kernel
theorem dX6_climb_3 : decode cX6_climb 3 = .ok (.invokevirtual 43, 3) := by decide +kernel
theorem dX6_climb_6 : decode cX6_climb 6 = .ok (.sipush 149, 3) := by decide +kernel
theorem dX6_climb_9 : decode cX6_climb 9 = .ok (.if_icmp .ne 61, 3) := by decide +kernel
theorem dX6_climb_12 : decode cX6_climb 12 = .ok (.iload_n 1, 1) := by decide +kernel
theorem dX6_climb_13 : decode cX6_climb 13 = .ok (.iconst 2, 1) := by decide +kernel
theorem dX6_climb_14 : decode cX6_climb 14 = .ok (.if_icmp .gt 56, 3) := by decide +kernel
theorem dX6_climb_17 : decode cX6_climb 17 = .ok (.iload_n 2, 1) := by decide +kernel
theorem dX6_climb_18 : decode cX6_climb 18 = .ok (.bipush 7, 2) := by decide +kernel
theorem dX6_climb_20 : decode cX6_climb 20 = .ok (.if_icmp .lt 9, 3) := by decide +kernel
theorem dX6_climb_23 : decode cX6_climb 23 = .ok (.aload_n 0, 1) := by decide +kernel
theorem dX6_climb_24 : decode cX6_climb 24 = .ok (.iconst 2, 1) := by decide +kernel
theorem dX6_climb_25 : decode cX6_climb 25 = .ok (.invokevirtual 51, 3) := by decide +kernel
theorem dX6_climb_28 : decode cX6_climb 28 = .ok (.ireturn, 1) := by decide +kernel
theorem dX6_climb_29 : decode cX6_climb 29 = .ok (.aload_n 0, 1) := by decide +kernel
theorem dX6_climb_30 : decode cX6_climb 30 = .ok (.dup, 1) := by decide +kernel
theorem dX6_climb_31 : decode cX6_climb 31 = .ok (.getfield 18, 3) := by decide +kernel
theorem dX6_climb_34 : decode cX6_climb 34 = .ok (.iconst 1, 1) := by decide +kernel
theorem dX6_climb_35 : decode cX6_climb 35 = .ok (.iadd, 1) := by decide +kernel
theorem dX6_climb_36 : decode cX6_climb 36 = .ok (.putfield 18, 3) := by decide +kernel
theorem dX6_climb_39 : decode cX6_climb 39 = .ok (.aload_n 0, 1) := by decide +kernel
theorem dX6_climb_40 : decode cX6_climb 40 = .ok (.iconst 2, 1) := by decide +kernel
theorem dX6_climb_41 : decode cX6_climb 41 = .ok (.iload_n 2, 1) := by decide +kernel
theorem dX6_climb_42 : decode cX6_climb 42 = .ok (.iconst 1, 1) := by decide +kernel
theorem dX6_climb_43 : decode cX6_climb 43 = .ok (.iadd, 1) := by decide +kernel
theorem dX6_climb_44 : decode cX6_climb 44 = .ok (.invokevirtual 167, 3) := by decide +kernel
theorem dX6_climb_47 : decode cX6_climb 47 = .ok (.ifCond .ne 5, 3) := by decide +kernel
theorem dX6_climb_50 : decode cX6_climb 50 = .ok (.iconst 0, 1) := by decide +kernel
theorem dX6_climb_51 : decode cX6_climb 51 = .ok (.ireturn, 1) := by decide +kernel
theorem dX6_climb_52 : decode cX6_climb 52 = .ok (.aload_n 0, 1) := by decide +kernel
theorem dX6_climb_53 : decode cX6_climb 53 = .ok (.getfield 12, 3) := by decide +kernel
theorem dX6_climb_56 : decode cX6_climb 56 = .ok (.getfield 157, 3) := by decide +kernel
theorem dX6_climb_59 : decode cX6_climb 59 = .ok (.sipush (-149), 3) := by decide +kernel
theorem dX6_climb_62 : decode cX6_climb 62 = .ok (.invokevirtual 174, 3) := by decide +kernel
theorem dX6_climb_65 : decode cX6_climb 65 = .ok (.iconst 1, 1) := by decide +kernel
theorem dX6_climb_66 : decode cX6_climb 66 = .ok (.istore_n 3, 1) := by decide +kernel
theorem dX6_climb_67 : decode cX6_climb 67 = .ok (.goto 13, 3) := by decide +kernel
theorem dX6_climb_70 : decode cX6_climb 70 = .ok (.aload_n 0, 1) := by decide +kernel
theorem dX6_climb_71 : decode cX6_climb 71 = .ok (.iload_n 2, 1) := by decide +kernel
theorem dX6_climb_72 : decode cX6_climb 72 = .ok (.invokevirtual 177, 3) := by decide +kernel
theorem dX6_climb_75 : decode cX6_climb 75 = .ok (.ifCond .ne 5, 3) := by decide +kernel
theorem dX6_climb_78 : decode cX6_climb 78 = .ok (.iconst 0, 1) := by decide +kernel
theorem dX6_climb_79 : decode cX6_climb 79 = .ok (.ireturn, 1) := by decide +kernel
theorem dX6_climb_80 : decode cX6_climb 80 = .ok (.iconst 0, 1) := by decide +kernel
theorem dX6_climb_81 : decode cX6_climb 81 = .ok (.istore 4, 2) := by decide +kernel
theorem dX6_climb_83 : decode cX6_climb 83 = .ok (.iload 4, 2) := by decide +kernel
theorem dX6_climb_85 : decode cX6_climb 85 = .ok (.aload_n 0, 1) := by decide +kernel
theorem dX6_climb_86 : decode cX6_climb 86 = .ok (.getfield 31, 3) := by decide +kernel
theorem dX6_climb_89 : decode cX6_climb 89 = .ok (.getfield 38, 3) := by decide +kernel
theorem dX6_climb_92 : decode cX6_climb 92 = .ok (.if_icmp .ge 86, 3) := by decide +kernel
theorem dX6_climb_95 : decode cX6_climb 95 = .ok (.aload_n 0, 1) := by decide +kernel
theorem dX6_climb_96 : decode cX6_climb 96 = .ok (.invokevirtual 43, 3) := by decide +kernel
theorem dX6_climb_99 : decode cX6_climb 99 = .ok (.istore 5, 2) := by decide +kernel
theorem dX6_climb_101 : decode cX6_climb 101 = .ok (.iload 5, 2) := by decide +kernel
theorem dX6_climb_103 : decode cX6_climb 103 = .ok (.invokestatic 180, 3) := by decide +kernel
theorem dX6_climb_106 : decode cX6_climb 106 = .ok (.istore 6, 2) := by decide +kernel
theorem dX6_climb_108 : decode cX6_climb 108 = .ok (.iload 6, 2) := by decide +kernel
theorem dX6_climb_110 : decode cX6_climb 110 = .ok (.iload_n 1, 1) := by decide +kernel
theorem dX6_climb_111 : decode cX6_climb 111 = .ok (.if_icmp .lt 9, 3) := by decide +kernel
theorem dX6_climb_114 : decode cX6_climb 114 = .ok (.iload 6, 2) := by decide +kernel
theorem dX6_climb_116 : decode cX6_climb 116 = .ok (.iload_n 3, 1) := by decide +kernel
theorem dX6_climb_117 : decode cX6_climb 117 = .ok (.if_icmp .le 5, 3) := by decide +kernel
theorem dX6_climb_120 : decode cX6_climb 120 = .ok (.iconst 1, 1) := by decide +kernel
theorem dX6_climb_121 : decode cX6_climb 121 = .ok (.ireturn, 1) := by decide +kernel
theorem dX6_climb_122 : decode cX6_climb 122 = .ok (.aload_n 0, 1) := by decide +kernel
theorem dX6_climb_123 : decode cX6_climb 123 = .ok (.dup, 1) := by decide +kernel
theorem dX6_climb_124 : decode cX6_climb 124 = .ok (.getfield 18, 3) := by decide +kernel
theorem dX6_climb_127 : decode cX6_climb 127 = .ok (.iconst 1, 1) := by decide +kernel
theorem dX6_climb_128 : decode cX6_climb 128 = .ok (.iadd, 1) := by decide +kernel
theorem dX6_climb_129 : decode cX6_climb 129 = .ok (.putfield 18, 3) := by decide +kernel
theorem dX6_climb_132 : decode cX6_climb 132 = .ok (.aload_n 0, 1) := by decide +kernel
theorem dX6_climb_133 : decode cX6_climb 133 = .ok (.iload 6, 2) := by decide +kernel
theorem dX6_climb_135 : decode cX6_climb 135 = .ok (.iconst 1, 1) := by decide +kernel
theorem dX6_climb_136 : decode cX6_climb 136 = .ok (.iadd, 1) := by decide +kernel
theorem dX6_climb_137 : decode cX6_climb 137 = .ok (.iload_n 2, 1) := by decide +kernel
theorem dX6_climb_138 : decode cX6_climb 138 = .ok (.invokevirtual 167, 3) := by decide +kernel
theorem dX6_climb_141 : decode cX6_climb 141 = .ok (.ifCond .ne 5, 3) := by decide +kernel
theorem dX6_climb_144 : decode cX6_climb 144 = .ok (.iconst 0, 1) := by decide +kernel
theorem dX6_climb_145 : decode cX6_climb 145 = .ok (.ireturn, 1) := by decide +kernel
theorem dX6_climb_146 : decode cX6_climb 146 = .ok (.aload_n 0, 1) := by decide +kernel
theorem dX6_climb_147 : decode cX6_climb 147 = .ok (.getfield 12, 3) := by decide +kernel
theorem dX6_climb_150 : decode cX6_climb 150 = .ok (.getfield 157, 3) := by decide +kernel
theorem dX6_climb_153 : decode cX6_climb 153 = .ok (.iload 5, 2) := by decide +kernel
theorem dX6_climb_155 : decode cX6_climb 155 = .ok (.ineg, 1) := by decide +kernel
theorem dX6_climb_156 : decode cX6_climb 156 = .ok (.invokevirtual 174, 3) := by decide +kernel
theorem dX6_climb_159 : decode cX6_climb 159 = .ok (.iload 6, 2) := by decide +kernel
theorem dX6_climb_161 : decode cX6_climb 161 = .ok (.iconst 2, 1) := by decide +kernel
theorem dX6_climb_162 : decode cX6_climb 162 = .ok (.if_icmp .ne 7, 3) := by decide +kernel
theorem dX6_climb_165 : decode cX6_climb 165 = .ok (.iconst 1, 1) := by decide +kernel
theorem dX6_climb_166 : decode cX6_climb 166 = .ok (.goto 5, 3) := by decide +kernel
theorem dX6_climb_169 : decode cX6_climb 169 = .ok (.iload 6, 2) := by decide +kernel
theorem dX6_climb_171 : decode cX6_climb 171 = .ok (.istore_n 3, 1) := by decide +kernel
theorem dX6_climb_172 : decode cX6_climb 172 = .ok (.iinc 4 1, 3) := by decide +kernel
theorem dX6_climb_175 : decode cX6_climb 175 = .ok (.goto (-92), 3) := by decide +kernel
theorem dX6_climb_178 : decode cX6_climb 178 = .ok (.iconst 1, 1) := by decide +kernel
theorem dX6_climb_179 : decode cX6_climb 179 = .ok (.ireturn, 1) := by decide +kernel
set_option maxRecDepth 100000 in
theorem m_X6_newName_v2 (l : Launch) (D : va_G) (cT : Nat → ClassId) (T : Nat → Option Nat) (q : Nat → Int) (hq : qok q) (a0 : Nat) (t0 : T a0 = some 2) (a1 : Nat) (t1 : T a1 = some 49) (y2 : Int32) (j2 : IV y2 0 8) : th_Met l D cT T (kd q) yX6_newName cX6_newName 3 (some .boolean) (rmk 2 43) [.ref a0, .ref a1, .int y2] (th_R T (some (.inl (0, 1)))) [2, 49] := by
  refine th_start (by decide) (Nat.le_of_ble_eq_true rfl) ?_
  intro p e s m below meth c ls S hK hH hr hlocks hnm hl
  have hx := S.1
  have hb := S.2.1
  have hl : lv_has ls 3 [(0, .ref a0), (1, .ref a1), (2, .int y2)] := hl
  have J46 : ∀ (H : Heap) (locs : List Loc) (ls : Array Slot), th_H D cT T (kd q) H → va_S (th_A T [2, 49]) s.heap H locs → lv_has ls 3 [(0, .ref a0)] → W p l e (rmk 2 43) s m [.ref a0, .ref a1, .int y2].toArray below meth c H locs 0 0 (MQ below (th_Q D cT T (kd q) (th_R T (some (.inl (0, 1)))) [2, 49]) [.ref a0, .ref a1, .int y2].toArray s 0 0 (th_A T [2, 49])) (F0 m 46 ls []) := by
    intro H locs ls hH hS hl
    refine lv_aload_n hx hb dX6_newName_46 rfl (lv_at hl 0 rfl) ?_
    refine lv_dup hx hb dX6_newName_47 rfl ?_
    refine th_get S hK hH inG6 t0 kd_2 rfl 2 (by decide) gm_342 rfl rfl dX6_newName_48 (fun v1 hv1 fv1 => ?_)
    obtain ⟨x2, rfl, ix2⟩ := th_V.int hv1
    refine lv_iconst (v := 1) hx hb dX6_newName_51 (by decide) ?_
    refine lv_iadd hx hb dX6_newName_52 ?_
    refine lv_topi (fun x3 ex3 => ?_)
    have ix3 := iv_top x3
    refine th_put S hK hH hS ⟨2, by decide, t0⟩ inG6 tyX6 tyX6_ok nmX6 t0 kd_2 rfl 2 (by decide) gm_342 rfl rfl rfl rfl (th_iv ix3) (fun _ _ => trivial) (ty := .int) (by decide +kernel) rfl rfl dX6_newName_53 (fun H locs hH hS hq1 hp1 => ?_)
    have f4 := hp1.1
    refine lv_iconst (v := 1) hx hb dX6_newName_56 (by decide) ?_
    exact th_zret S hK hH hS hr hlocks (iv_w (iv_c (by decide) : IV 1 1 1) (by decide)) (th_R.i (iv_w (iv_c (by decide) : IV 1 1 1) (by decide))) dX6_newName_57
  have J0 : ∀ (H : Heap) (locs : List Loc) (ls : Array Slot), th_H D cT T (kd q) H → va_S (th_A T [2, 49]) s.heap H locs → lv_has ls 3 [(0, .ref a0), (1, .ref a1), (2, .int y2)] → W p l e (rmk 2 43) s m [.ref a0, .ref a1, .int y2].toArray below meth c H locs 0 0 (MQ below (th_Q D cT T (kd q) (th_R T (some (.inl (0, 1)))) [2, 49]) [.ref a0, .ref a1, .int y2].toArray s 0 0 (th_A T [2, 49])) (F0 m 0 ls []) := by
    intro H locs ls hH hS hl
    refine lv_aload_n hx hb dX6_newName_0 rfl (lv_at hl 0 rfl) ?_
    refine th_callVi (n := 0) (As := []) S hK hH hS (th_A.sub (by decide)) (m_X6_kind l D cT T q hq a0 t0) gm_708 gm_705 gm_707 gm_5 gm_115 (by decide +kernel) ⟨rfl, rfl, Nat.le_of_ble_eq_true rfl, Nat.le_of_ble_eq_true rfl⟩ t0 kd_2 rfl rfl hl.1 rfl (Nat.le_of_ble_eq_true rfl) dX6_newName_1 ⟨Nat.zero_le _, Nat.zero_le _⟩ (fun x5 H locs ix5 hH hS hF1 => ?_)
    refine lv_iconst (v := 2) hx hb dX6_newName_4 (by decide) ?_
    refine lv_icmp_eq (tgt := 14) hx hb dX6_newName_5 (by decide) (fun c6 => ?_) (fun c6 => ?_)
    · skip
      have ir7 : IV x5 2 2 := iv_eL c6 (iv_c (by decide) : IV 2 2 2)
      refine lv_aload_n hx hb dX6_newName_14 rfl (lv_at hl 0 rfl) ?_
      refine lv_aload_n hx hb dX6_newName_15 rfl (lv_at hl 1 rfl) ?_
      refine lv_iload_n hx hb dX6_newName_16 rfl (lv_at hl 2 rfl) ?_
      refine th_callVi (n := 2) (As := [.ref a1, .int y2]) S hK hH hS (th_A.sub (by decide)) (m_X6_indexOf_v2 l D cT T q hq a0 t0 a1 t1 (y2) (iv_top _)) gm_734 gm_731 gm_733 gm_9 gm_115 (by decide +kernel) ⟨rfl, rfl, Nat.le_of_ble_eq_true rfl, Nat.le_of_ble_eq_true rfl⟩ t0 kd_2 rfl rfl hl.1 rfl (Nat.le_of_ble_eq_true rfl) dX6_newName_17 ⟨Nat.zero_le _, Nat.zero_le _⟩ (fun x8 H locs ix8 hH hS hF1 => ?_)
      refine lv_if_lt (tgt := 29) hx hb dX6_newName_20 (by decide) (fun c9 => ?_) (fun c9 => ?_)
      · skip
        have ir10 : IV x8 (-1) (-1) := iv_uL ix8 (iv_c (by decide) : IV 0 0 0) (iv_lt c9) (by decide)
        refine lv_iload_n hx hb dX6_newName_29 rfl (lv_at hl 2 rfl) ?_
        refine lv_if_lt (tgt := 46) hx hb dX6_newName_30 (by decide) (fun c11 => ?_) (fun c11 => ?_)
        · skip
          exfalso
          have z1 := iv_lt c11
          have z2 := (j2).1
          have z3 := (j2).2
          have z4 := ((iv_c (by decide) : IV 0 0 0)).1
          have z5 := ((iv_c (by decide) : IV 0 0 0)).2
          omega
        · skip
          refine lv_iload_n hx hb dX6_newName_33 rfl (lv_at hl 2 rfl) ?_
          refine lv_aload_n hx hb dX6_newName_34 rfl (lv_at hl 1 rfl) ?_
          refine th_alen S hK hH t1 kd_49 rfl (v := 8) (by decide) dX6_newName_35 ?_
          refine lv_icmp_ge (tgt := 46) hx hb dX6_newName_36 (by decide) (fun c12 => ?_) (fun c12 => ?_)
          · skip
            have ir13 : IV y2 8 8 := iv_vR (iv_c (by decide) : IV 8 8 8) j2 (iv_le c12) (by decide)
            exact J46 H locs ls  hH hS (lv_sub hl [0] rfl)
          · skip
            have ir14 : IV y2 0 7 := iv_uL j2 (iv_c (by decide) : IV 8 8 8) (iv_nle c12) (by decide)
            refine lv_aload_n hx hb dX6_newName_39 rfl (lv_at hl 1 rfl) ?_
            refine lv_iload_n hx hb dX6_newName_40 rfl (lv_at hl 2 rfl) ?_
            refine lv_aload_n hx hb dX6_newName_41 rfl (lv_at hl 0 rfl) ?_
            refine th_callVl (n := 0) (As := []) S hK hH hS (th_A.sub (by decide)) (m_X6_value l D cT T q hq a0 t0) gm_738 gm_735 gm_737 gm_10 gm_115 (by decide +kernel) ⟨rfl, rfl, Nat.le_of_ble_eq_true rfl, Nat.le_of_ble_eq_true rfl⟩ t0 kd_2 rfl rfl hl.1 rfl (Nat.le_of_ble_eq_true rfl) dX6_newName_42 ⟨Nat.zero_le _, Nat.zero_le _⟩ (fun lg15 H locs hH hS hF1 => ?_)
            refine th_last S hK hH hS ⟨49, by decide, t1⟩ t1 kd_49 (th_in (hi := 7) ir14 (by decide)) (th_lg _) dX6_newName_45 (fun H locs hH hS hq1 => ?_)
            exact J46 H locs ls  hH hS (lv_sub hl [0] rfl)
      · skip
        have ir16 : IV x8 0 7 := iv_vR (iv_c (by decide) : IV 0 0 0) ix8 (iv_nlt c9) (by decide)
        refine lv_aload_n hx hb dX6_newName_23 rfl (lv_at hl 0 rfl) ?_
        refine lv_iconst (v := 3) hx hb dX6_newName_24 (by decide) ?_
        refine th_callVi (n := 1) (As := [.int 3]) S hK hH hS (th_A.sub (by decide)) (m_X6_blame l D cT T q hq a0 t0 (3) (iv_top _)) gm_722 gm_719 gm_721 gm_6 gm_115 (by decide +kernel) ⟨rfl, rfl, Nat.le_of_ble_eq_true rfl, Nat.le_of_ble_eq_true rfl⟩ t0 kd_2 rfl rfl hl.1 rfl (Nat.le_of_ble_eq_true rfl) dX6_newName_25 ⟨Nat.zero_le _, Nat.zero_le _⟩ (fun x17 H locs ix17 hH hS hF1 => ?_)
        exact th_zret S hK hH hS hr hlocks (iv_w ix17 (by decide)) (th_R.i (iv_w ix17 (by decide))) dX6_newName_28
    · skip
      refine lv_aload_n hx hb dX6_newName_8 rfl (lv_at hl 0 rfl) ?_
      refine lv_iconst (v := 2) hx hb dX6_newName_9 (by decide) ?_
      refine th_callVi (n := 1) (As := [.int 2]) S hK hH hS (th_A.sub (by decide)) (m_X6_blame l D cT T q hq a0 t0 (2) (iv_top _)) gm_722 gm_719 gm_721 gm_6 gm_115 (by decide +kernel) ⟨rfl, rfl, Nat.le_of_ble_eq_true rfl, Nat.le_of_ble_eq_true rfl⟩ t0 kd_2 rfl rfl hl.1 rfl (Nat.le_of_ble_eq_true rfl) dX6_newName_10 ⟨Nat.zero_le _, Nat.zero_le _⟩ (fun x18 H locs ix18 hH hS hF1 => ?_)
      exact th_zret S hK hH hS hr hlocks (iv_w ix18 (by decide)) (th_R.i (iv_w ix18 (by decide))) dX6_newName_13
  exact J0 s.heap [] ls hH va_S.rf hl

set_option maxRecDepth 100000 in
theorem m_X6_number (l : Launch) (D : va_G) (cT : Nat → ClassId) (T : Nat → Option Nat) (q : Nat → Int) (hq : qok q) (a0 : Nat) (t0 : T a0 = some 2) (y1 : Int32) (j1 : IV y1 (-2147483648) 2147483647) (y2 : Int32) (j2 : IV y2 (-2147483648) 2147483647) : th_Met l D cT T (kd q) yX6_number cX6_number 4 (some .int) (rmk 1 22) [.ref a0, .int y1, .int y2] (th_R T (some (.inl (-2147483648, 2147483647)))) [2] := by
  refine th_start (by decide) (Nat.le_of_ble_eq_true rfl) ?_
  intro p e s m below meth c ls S hK hH hr hlocks hnm hl
  have hx := S.1
  have hb := S.2.1
  have hl : lv_has ls 4 [(0, .ref a0), (1, .int y1), (2, .int y2)] := hl
  have J32 : ∀ (H : Heap) (locs : List Loc) (ls : Array Slot), th_H D cT T (kd q) H → va_S (th_A T [2]) s.heap H locs → lv_has ls 4 [(0, .ref a0)] → W p l e (rmk 1 22) s m [.ref a0, .int y1, .int y2].toArray below meth c H locs 0 0 (MQ below (th_Q D cT T (kd q) (th_R T (some (.inl (-2147483648, 2147483647)))) [2]) [.ref a0, .int y1, .int y2].toArray s 0 0 (th_A T [2])) (F0 m 32 ls []) := by
    intro H locs ls hH hS hl
    refine lv_aload_n hx hb dX6_number_32 rfl (lv_at hl 0 rfl) ?_
    refine lv_iconst (v := 4) hx hb dX6_number_33 (by decide) ?_
    refine th_callVi (n := 1) (As := [.int 4]) S hK hH hS (th_A.sub (by decide)) (m_X6_blame l D cT T q hq a0 t0 (4) (iv_top _)) gm_722 gm_719 gm_721 gm_6 gm_115 (by decide +kernel) ⟨rfl, rfl, Nat.le_of_ble_eq_true rfl, Nat.le_of_ble_eq_true rfl⟩ t0 kd_2 rfl rfl hl.1 rfl (Nat.le_of_ble_eq_true rfl) dX6_number_34 ⟨Nat.zero_le _, Nat.zero_le _⟩ (fun x1 H locs ix1 hH hS hF1 => ?_)
    refine lv_pop hx hb dX6_number_37 rfl ?_
    refine lv_iconst (v := (-1)) hx hb dX6_number_38 (by decide) ?_
    exact th_iret S hK hH hS hr hlocks (th_R.i (iv_top _)) dX6_number_39
  have J0 : ∀ (H : Heap) (locs : List Loc) (ls : Array Slot), th_H D cT T (kd q) H → va_S (th_A T [2]) s.heap H locs → lv_has ls 4 [(0, .ref a0), (1, .int y1), (2, .int y2)] → W p l e (rmk 1 22) s m [.ref a0, .int y1, .int y2].toArray below meth c H locs 0 0 (MQ below (th_Q D cT T (kd q) (th_R T (some (.inl (-2147483648, 2147483647)))) [2]) [.ref a0, .int y1, .int y2].toArray s 0 0 (th_A T [2])) (F0 m 0 ls []) := by
    intro H locs ls hH hS hl
    refine lv_aload_n hx hb dX6_number_0 rfl (lv_at hl 0 rfl) ?_
    refine th_callVi (n := 0) (As := []) S hK hH hS (th_A.sub (by decide)) (m_X6_kind l D cT T q hq a0 t0) gm_708 gm_705 gm_707 gm_5 gm_115 (by decide +kernel) ⟨rfl, rfl, Nat.le_of_ble_eq_true rfl, Nat.le_of_ble_eq_true rfl⟩ t0 kd_2 rfl rfl hl.1 rfl (Nat.le_of_ble_eq_true rfl) dX6_number_1 ⟨Nat.zero_le _, Nat.zero_le _⟩ (fun x2 H locs ix2 hH hS hF1 => ?_)
    refine lv_iconst (v := 3) hx hb dX6_number_4 (by decide) ?_
    refine lv_icmp_eq (tgt := 16) hx hb dX6_number_5 (by decide) (fun c3 => ?_) (fun c3 => ?_)
    · skip
      have ir4 : IV x2 3 3 := iv_eL c3 (iv_c (by decide) : IV 3 3 3)
      refine lv_aload_n hx hb dX6_number_16 rfl (lv_at hl 0 rfl) ?_
      refine th_callVl (n := 0) (As := []) S hK hH hS (th_A.sub (by decide)) (m_X6_value l D cT T q hq a0 t0) gm_738 gm_735 gm_737 gm_10 gm_115 (by decide +kernel) ⟨rfl, rfl, Nat.le_of_ble_eq_true rfl, Nat.le_of_ble_eq_true rfl⟩ t0 kd_2 rfl rfl hl.1 rfl (Nat.le_of_ble_eq_true rfl) dX6_number_17 ⟨Nat.zero_le _, Nat.zero_le _⟩ (fun lg5 H locs hH hS hF1 => ?_)
      refine lv_l2i (v := _) hx hb dX6_number_20 rfl ?_
      refine lv_topi (fun x6 ex6 => ?_)
      have ix6 := iv_top x6
      refine lv_istore_n (lv' := [(3, .int x6), (0, .ref a0), (1, .int y1), (2, .int y2)]) hx hb dX6_number_21 rfl hl (by decide) rfl (fun ls hl => ?_)
      refine lv_iload_n hx hb dX6_number_22 rfl (lv_at hl 0 rfl) ?_
      refine lv_iload_n hx hb dX6_number_23 rfl (lv_at hl 2 rfl) ?_
      refine lv_icmp_lt (tgt := 32) hx hb dX6_number_24 (by decide) (fun c7 => ?_) (fun c7 => ?_)
      · skip
        have ir8 : IV x6 (-2147483648) 2147483646 := iv_uL ix6 j1 (iv_lt c7) (by decide)
        have ir9 : IV y1 (-2147483647) 2147483647 := iv_uR ix6 j1 (iv_lt c7) (by decide)
        exact J32 H locs ls  hH hS (lv_sub hl [1] rfl)
      · skip
        refine lv_iload_n hx hb dX6_number_27 rfl (lv_at hl 0 rfl) ?_
        refine lv_iload_n hx hb dX6_number_28 rfl (lv_at hl 3 rfl) ?_
        refine lv_icmp_le (tgt := 40) hx hb dX6_number_29 (by decide) (fun c10 => ?_) (fun c10 => ?_)
        · skip
          refine lv_aload_n hx hb dX6_number_40 rfl (lv_at hl 1 rfl) ?_
          refine lv_dup hx hb dX6_number_41 rfl ?_
          refine th_get S hK hH inG6 t0 kd_2 rfl 2 (by decide) gm_342 rfl rfl dX6_number_42 (fun v11 hv11 fv11 => ?_)
          obtain ⟨x12, rfl, ix12⟩ := th_V.int hv11
          refine lv_iconst (v := 1) hx hb dX6_number_45 (by decide) ?_
          refine lv_iadd hx hb dX6_number_46 ?_
          refine lv_topi (fun x13 ex13 => ?_)
          have ix13 := iv_top x13
          refine th_put S hK hH hS ⟨2, by decide, t0⟩ inG6 tyX6 tyX6_ok nmX6 t0 kd_2 rfl 2 (by decide) gm_342 rfl rfl rfl rfl (th_iv ix13) (fun _ _ => trivial) (ty := .int) (by decide +kernel) rfl rfl dX6_number_47 (fun H locs hH hS hq1 hp1 => ?_)
          have f14 := hp1.1
          refine lv_iload_n hx hb dX6_number_50 rfl (lv_at hl 0 rfl) ?_
          exact th_iret S hK hH hS hr hlocks (th_R.i ix6) dX6_number_51
        · skip
          have ir15 : IV y2 (-2147483648) 2147483646 := iv_uL j2 ix6 (iv_nle c10) (by decide)
          have ir16 : IV x6 (-2147483647) 2147483647 := iv_uR j2 ix6 (iv_nle c10) (by decide)
          exact J32 H locs ls  hH hS (lv_sub hl [1] rfl)
    · skip
      refine lv_aload_n hx hb dX6_number_8 rfl (lv_at hl 0 rfl) ?_
      refine lv_iconst (v := 2) hx hb dX6_number_9 (by decide) ?_
      refine th_callVi (n := 1) (As := [.int 2]) S hK hH hS (th_A.sub (by decide)) (m_X6_blame l D cT T q hq a0 t0 (2) (iv_top _)) gm_722 gm_719 gm_721 gm_6 gm_115 (by decide +kernel) ⟨rfl, rfl, Nat.le_of_ble_eq_true rfl, Nat.le_of_ble_eq_true rfl⟩ t0 kd_2 rfl rfl hl.1 rfl (Nat.le_of_ble_eq_true rfl) dX6_number_10 ⟨Nat.zero_le _, Nat.zero_le _⟩ (fun x17 H locs ix17 hH hS hF1 => ?_)
      refine lv_pop hx hb dX6_number_13 rfl ?_
      refine lv_iconst (v := (-1)) hx hb dX6_number_14 (by decide) ?_
      exact th_iret S hK hH hS hr hlocks (th_R.i (iv_top _)) dX6_number_15
  exact J0 s.heap [] ls hH va_S.rf hl

set_option maxRecDepth 100000 in
theorem m_X6_foodLine (l : Launch) (D : va_G) (cT : Nat → ClassId) (T : Nat → Option Nat) (q : Nat → Int) (hT : tok T) (hqr : qokr q) (hp0 : q 3 ≤ 2) (a0 : Nat) (t0 : T a0 = some 2) : th_MetX l D cT T q yX6_foodLine cX6_foodLine 2 (some .boolean) (rmk 3 65) [.ref a0] (th_R T (some (.inl (0, 1)))) [2, 29, 46, 47] := by
  refine th_startX (by decide) (Nat.le_of_ble_eq_true rfl) ?_
  have hq := hqr.1
  intro p e s m below meth c ls S hK hH hr hlocks hnm hl
  have hx := S.1
  have hb := S.2.1
  have hl : lv_has ls 2 [(0, .ref a0)] := hl
  have J0 : ∀ (H : Heap) (locs : List Loc) (ls : Array Slot), th_H D cT T (kd q) H → va_S (th_A T [2, 29, 46, 47]) s.heap H locs → lv_has ls 2 [(0, .ref a0)] → W p l e (rmk 3 65) s m [.ref a0].toArray below meth c H locs 0 0 (MQ below (th_QX D cT T q (th_R T (some (.inl (0, 1)))) [2, 29, 46, 47]) [.ref a0].toArray s 0 0 (th_A T [2, 29, 46, 47])) (F0 m 0 ls []) := by
    intro H locs ls hH hS hl
    refine lv_aload_n hx hb dX6_foodLine_0 rfl (lv_at hl 0 rfl) ?_
    refine lv_aload_n hx hb dX6_foodLine_1 rfl (lv_at hl 0 rfl) ?_
    refine th_get S hK hH inG6 t0 kd_2 rfl 1 (by decide) gm_340 rfl rfl dX6_foodLine_2 (fun v1 hv1 fv1 => ?_)
    obtain ⟨rf2, rfl, trf2⟩ := th_V.ref hv1
    refine th_get S hK hH inG4 trf2 kd_46 rfl 0 (by decide) gm_236 rfl rfl dX6_foodLine_5 (fun v3 hv3 fv3 => ?_)
    obtain ⟨rf4, rfl, trf4⟩ := th_V.ref hv3
    refine lv_aload_n hx hb dX6_foodLine_8 rfl (lv_at hl 0 rfl) ?_
    refine th_getK S hK fv1 inG6 rfl (by decide) gm_340 rfl dX6_foodLine_9 ?_
    refine th_get S hK hH inG4 trf2 kd_46 rfl 11 (by decide) gm_275 rfl rfl dX6_foodLine_12 (fun v6 hv6 fv6 => ?_)
    obtain ⟨x7, rfl, ix7⟩ := th_V.int hv6
    have kx7 : IV x7 (q 3) (q 3) := ix7
    have kx7a := kx7.1
    have kx7b := kx7.2
    have ix7 : IV x7 0 2 := iv_w ix7 ⟨(qok_3 hq).1, hp0⟩
    refine th_callVi (n := 2) (As := [.ref rf4, .int x7]) S hK hH hS (th_A.sub (by decide)) (m_X6_newName_v0 l D cT T q hq a0 t0 rf4 trf4 (x7) (iv_w ix7 (by decide))) gm_730 gm_727 gm_729 gm_8 gm_115 (by decide +kernel) ⟨rfl, rfl, Nat.le_of_ble_eq_true rfl, Nat.le_of_ble_eq_true rfl⟩ t0 kd_2 rfl rfl hl.1 rfl (Nat.le_of_ble_eq_true rfl) dX6_foodLine_15 ⟨Nat.zero_le _, Nat.zero_le _⟩ (fun x8 H locs ix8 hH hS hF1 => ?_)
    have f9 := fv6.kept (hF1 _ fv6.lt (th_off trf2 (by decide)))
    refine lv_if_ne (tgt := 23) hx hb dX6_foodLine_18 (by decide) (fun c10 => ?_) (fun c10 => ?_)
    · skip
      have ir11 : IV x8 1 1 := iv_cutL ix8 (iv_c (by decide) : IV 0 0 0) c10 (by decide)
      have ir11a := ir11.1
      have ir11b := ir11.2
      refine lv_aload_n hx hb dX6_foodLine_23 rfl (lv_at hl 0 rfl) ?_
      refine lv_iconst (v := 0) hx hb dX6_foodLine_24 (by decide) ?_
      refine lv_bipush (v := 99) hx hb dX6_foodLine_25 (by decide) ?_
      refine th_callVi (n := 2) (As := [.int 0, .int 99]) S hK hH hS (th_A.sub (by decide)) (m_X6_number l D cT T q hq a0 t0 (0) (iv_top _) (99) (iv_top _)) gm_742 gm_739 gm_741 gm_11 gm_115 (by decide +kernel) ⟨rfl, rfl, Nat.le_of_ble_eq_true rfl, Nat.le_of_ble_eq_true rfl⟩ t0 kd_2 rfl rfl hl.1 rfl (Nat.le_of_ble_eq_true rfl) dX6_foodLine_27 ⟨Nat.zero_le _, Nat.zero_le _⟩ (fun x12 H locs ix12 hH hS hF1 => ?_)
      have f13 := f9.kept (hF1 _ f9.lt (th_off trf2 (by decide)))
      refine lv_istore_n (lv' := [(1, .int x12), (0, .ref a0)]) hx hb dX6_foodLine_30 rfl hl (by decide) rfl (fun ls hl => ?_)
      refine lv_iload_n hx hb dX6_foodLine_31 rfl (lv_at hl 0 rfl) ?_
      refine lv_if_ge (tgt := 37) hx hb dX6_foodLine_32 (by decide) (fun c14 => ?_) (fun c14 => ?_)
      · skip
        have ir15 : IV x12 0 2147483647 := iv_vR (iv_c (by decide) : IV 0 0 0) ix12 (iv_le c14) (by decide)
        have ir15a := ir15.1
        have ir15b := ir15.2
        refine lv_aload_n hx hb dX6_foodLine_37 rfl (lv_at hl 1 rfl) ?_
        refine th_get S hK hH inG6 t0 kd_2 rfl 1 (by decide) gm_340 rfl rfl dX6_foodLine_38 (fun v16 hv16 fv16 => ?_)
        obtain ⟨rf17, rfl, trf17⟩ := th_V.ref hv16
        refine th_get S hK hH inG4 trf17 kd_46 rfl 10 (by decide) gm_272 rfl rfl dX6_foodLine_41 (fun v18 hv18 fv18 => ?_)
        obtain ⟨rf19, rfl, trf19⟩ := th_V.ref hv18
        refine th_get S hK hH inG7 trf19 kd_10 rfl 0 (by decide) gm_229 rfl rfl dX6_foodLine_44 (fun v20 hv20 fv20 => ?_)
        obtain ⟨rf21, rfl, trf21⟩ := th_V.ref hv20
        refine lv_iconst (v := 0) hx hb dX6_foodLine_47 (by decide) ?_
        refine lv_aload_n hx hb dX6_foodLine_48 rfl (lv_at hl 1 rfl) ?_
        refine th_getK S hK fv16 inG6 rfl (by decide) gm_340 rfl dX6_foodLine_49 ?_
        refine th_get S hK hH inG4 trf17 kd_46 rfl 11 (by decide) gm_275 rfl rfl dX6_foodLine_52 (fun v23 hv23 fv23 => ?_)
        obtain ⟨x24, rfl, ix24⟩ := th_V.int hv23
        have kx24 : IV x24 (q 3) (q 3) := ix24
        have kx24a := kx24.1
        have kx24b := kx24.2
        have ix24 : IV x24 0 2 := iv_w ix24 ⟨(qok_3 hq).1, hp0⟩
        refine lv_iadd hx hb dX6_foodLine_55 ?_
        refine lv_topi (fun x25 ex25 => ?_)
        have ix25 : IV x25 0 2 := by rw [ex25]; exact iv_add (iv_c (by decide) : IV 0 0 0) ix24 (by decide)
        refine lv_iload_n hx hb dX6_foodLine_56 rfl (lv_at hl 0 rfl) ?_
        refine th_iast S hK hH hS ⟨29, by decide, trf21⟩ trf21 kd_29 (th_in (hi := 2) ix25 (by decide)) (th_iv (iv_top _)) dX6_foodLine_57 (fun H locs hH hS hq1 => ?_)
        have f26 := f13.kept (hq1 _ (th_ne trf2 trf21 (by decide)))
        have f27 := fv16.kept (hq1 _ (th_ne t0 trf21 (by decide)))
        have f28 := fv23.kept (hq1 _ (th_ne trf17 trf21 (by decide)))
        refine lv_aload_n hx hb dX6_foodLine_58 rfl (lv_at hl 1 rfl) ?_
        refine th_getK S hK f27 inG6 rfl (by decide) gm_340 rfl dX6_foodLine_59 ?_
        refine lv_dup hx hb dX6_foodLine_62 rfl ?_
        refine th_getK S hK f28 inG4 rfl (by decide) gm_275 rfl dX6_foodLine_63 ?_
        refine lv_iconst (v := 1) hx hb dX6_foodLine_66 (by decide) ?_
        refine lv_iadd hx hb dX6_foodLine_67 ?_
        refine lv_topi (fun x31 ex31 => ?_)
        have ix31 : IV x31 1 3 := by rw [ex31]; exact iv_add ix24 (iv_c (by decide) : IV 1 1 1) (by decide)
        have ux31 : x31.toInt = x24.toInt + 1 := by rw [ex31]; have z1 := (ix24).1; have z2 := (ix24).2; have z3 : (1 : Int32).toInt = 1 := rfl; have z4 := iv_addE (x := x24) (y := 1) (by omega); omega
        obtain ⟨n32, en32⟩ : ∃ z : Int, z = Int32.toInt x31 := ⟨_, rfl⟩
        have hzq33 : qok (qup q 3 n32) := qup_ok3 hq (iv_z en32 (iv_w ix31 (by decide)))
        refine th_putX (Ks2 := kd (qup q 3 n32)) S hK hH hS ⟨46, by decide, trf17⟩ inG4 tyX4 tyX4_ok nmX4 trf17 (fun b hb => hT 46 (by decide) _ _ hb trf17) kd_46 kd_46 (kd_up3 _ _) rfl 11 (by decide) gm_275 rfl rfl rfl rfl (fun i hi => match i, hi with | 0, _ => rfl | 1, _ => rfl | 2, _ => rfl | 3, _ => rfl | 4, _ => rfl | 5, _ => rfl | 6, _ => rfl | 7, _ => rfl | 8, _ => rfl | 9, _ => rfl | 10, _ => rfl | 11, h => absurd rfl h | 12, _ => rfl | 13, _ => rfl | 14, _ => rfl | 15, _ => rfl | 16, _ => rfl | 17, _ => rfl | 18, _ => rfl | _ + 19, _ => rfl) (Nat.le_of_ble_eq_true rfl) (th_selfE en32) (ty := .int) (by decide +kernel) rfl rfl dX6_foodLine_68 (fun H locs hH hS hq1 => ?_)
        have f34 := f27.kept (hq1 _ (th_ne t0 trf17 (by decide)))
        refine lv_iconst (v := 1) hx hb dX6_foodLine_71 (by decide) ?_
        exact th_zretX S hK hH hS hr hlocks ⟨hzq33, by have w1 := qok_1 hzq33; have w2 := qok_2 hzq33; have w3 := qok_1 hq; have w4 := qok_2 hq; have w5 := hqr.2; simp [qup] at w1 w2 ⊢; omega⟩ rfl (iv_w (iv_c (by decide) : IV 1 1 1) (by decide)) (th_R.i (iv_w (iv_c (by decide) : IV 1 1 1) (by decide))) dX6_foodLine_72
      · skip
        have ir35 : IV x12 (-2147483648) (-1) := iv_uL ix12 (iv_c (by decide) : IV 0 0 0) (iv_nle c14) (by decide)
        have ir35a := ir35.1
        have ir35b := ir35.2
        refine lv_iconst (v := 0) hx hb dX6_foodLine_35 (by decide) ?_
        exact th_zretX S hK hH hS hr hlocks hqr rfl (iv_w (iv_c (by decide) : IV 0 0 0) (by decide)) (th_R.i (iv_w (iv_c (by decide) : IV 0 0 0) (by decide))) dX6_foodLine_36
    · skip
      have ir36 : IV x8 0 0 := iv_eL c10 (iv_c (by decide) : IV 0 0 0)
      have ir36a := ir36.1
      have ir36b := ir36.2
      refine lv_iconst (v := 0) hx hb dX6_foodLine_21 (by decide) ?_
      exact th_zretX S hK hH hS hr hlocks hqr rfl (iv_w (iv_c (by decide) : IV 0 0 0) (by decide)) (th_R.i (iv_w (iv_c (by decide) : IV 0 0 0) (by decide))) dX6_foodLine_22
  exact J0 s.heap [] ls hH va_S.rf hl

set_option maxRecDepth 100000 in
theorem m_X6_take (l : Launch) (D : va_G) (cT : Nat → ClassId) (T : Nat → Option Nat) (q : Nat → Int) (hq : qok q) (a0 : Nat) (t0 : T a0 = some 2) (y1 : Int32) (j1 : IV y1 (-2147483648) 2147483647) : th_Met l D cT T (kd q) yX6_take cX6_take 2 (some .boolean) (rmk 1 22) [.ref a0, .int y1] (th_R T (some (.inl (0, 1)))) [2] := by
  refine th_start (by decide) (Nat.le_of_ble_eq_true rfl) ?_
  intro p e s m below meth c ls S hK hH hr hlocks hnm hl
  have hx := S.1
  have hb := S.2.1
  have hl : lv_has ls 2 [(0, .ref a0), (1, .int y1)] := hl
  have J0 : ∀ (H : Heap) (locs : List Loc) (ls : Array Slot), th_H D cT T (kd q) H → va_S (th_A T [2]) s.heap H locs → lv_has ls 2 [(0, .ref a0), (1, .int y1)] → W p l e (rmk 1 22) s m [.ref a0, .int y1].toArray below meth c H locs 0 0 (MQ below (th_Q D cT T (kd q) (th_R T (some (.inl (0, 1)))) [2]) [.ref a0, .int y1].toArray s 0 0 (th_A T [2])) (F0 m 0 ls []) := by
    intro H locs ls hH hS hl
    refine lv_aload_n hx hb dX6_take_0 rfl (lv_at hl 0 rfl) ?_
    refine th_callVi (n := 0) (As := []) S hK hH hS (th_A.sub (by decide)) (m_X6_kind l D cT T q hq a0 t0) gm_708 gm_705 gm_707 gm_5 gm_115 (by decide +kernel) ⟨rfl, rfl, Nat.le_of_ble_eq_true rfl, Nat.le_of_ble_eq_true rfl⟩ t0 kd_2 rfl rfl hl.1 rfl (Nat.le_of_ble_eq_true rfl) dX6_take_1 ⟨Nat.zero_le _, Nat.zero_le _⟩ (fun x1 H locs ix1 hH hS hF1 => ?_)
    refine lv_iload_n hx hb dX6_take_4 rfl (lv_at hl 1 rfl) ?_
    refine lv_icmp_eq (tgt := 14) hx hb dX6_take_5 (by decide) (fun c2 => ?_) (fun c2 => ?_)
    · skip
      refine lv_aload_n hx hb dX6_take_14 rfl (lv_at hl 0 rfl) ?_
      refine lv_dup hx hb dX6_take_15 rfl ?_
      refine th_get S hK hH inG6 t0 kd_2 rfl 2 (by decide) gm_342 rfl rfl dX6_take_16 (fun v3 hv3 fv3 => ?_)
      obtain ⟨x4, rfl, ix4⟩ := th_V.int hv3
      refine lv_iconst (v := 1) hx hb dX6_take_19 (by decide) ?_
      refine lv_iadd hx hb dX6_take_20 ?_
      refine lv_topi (fun x5 ex5 => ?_)
      have ix5 := iv_top x5
      refine th_put S hK hH hS ⟨2, by decide, t0⟩ inG6 tyX6 tyX6_ok nmX6 t0 kd_2 rfl 2 (by decide) gm_342 rfl rfl rfl rfl (th_iv ix5) (fun _ _ => trivial) (ty := .int) (by decide +kernel) rfl rfl dX6_take_21 (fun H locs hH hS hq1 hp1 => ?_)
      have f6 := hp1.1
      refine lv_iconst (v := 1) hx hb dX6_take_24 (by decide) ?_
      exact th_zret S hK hH hS hr hlocks (iv_w (iv_c (by decide) : IV 1 1 1) (by decide)) (th_R.i (iv_w (iv_c (by decide) : IV 1 1 1) (by decide))) dX6_take_25
    · skip
      refine lv_aload_n hx hb dX6_take_8 rfl (lv_at hl 0 rfl) ?_
      refine lv_iconst (v := 2) hx hb dX6_take_9 (by decide) ?_
      refine th_callVi (n := 1) (As := [.int 2]) S hK hH hS (th_A.sub (by decide)) (m_X6_blame l D cT T q hq a0 t0 (2) (iv_top _)) gm_722 gm_719 gm_721 gm_6 gm_115 (by decide +kernel) ⟨rfl, rfl, Nat.le_of_ble_eq_true rfl, Nat.le_of_ble_eq_true rfl⟩ t0 kd_2 rfl rfl hl.1 rfl (Nat.le_of_ble_eq_true rfl) dX6_take_10 ⟨Nat.zero_le _, Nat.zero_le _⟩ (fun x7 H locs ix7 hH hS hF1 => ?_)
      exact th_zret S hK hH hS hr hlocks (iv_w ix7 (by decide)) (th_R.i (iv_w ix7 (by decide))) dX6_take_13
  exact J0 s.heap [] ls hH va_S.rf hl

set_option maxRecDepth 100000 in
theorem m_X6_levelOf (l : Launch) (D : va_G) (cT : Nat → ClassId) (T : Nat → Option Nat) (q : Nat → Int) (hq : qok q) (y0 : Int32) (j0 : IV y0 (-2147483648) 2147483647) : th_Met l D cT T (kd q) yX6_levelOf cX6_levelOf 1 (some .int) (rmk 0 0) [.int y0] (th_R T (some (.inl (-1, 4)))) [] := by
  refine th_start (by decide) (Nat.le_of_ble_eq_true rfl) ?_
  intro p e s m below meth c ls S hK hH hr hlocks hnm hl
  have hx := S.1
  have hb := S.2.1
  have hl : lv_has ls 1 [(0, .int y0)] := hl
  have J0 : ∀ (H : Heap) (locs : List Loc) (ls : Array Slot), th_H D cT T (kd q) H → va_S (th_A T []) s.heap H locs → lv_has ls 1 [(0, .int y0)] → W p l e (rmk 0 0) s m [.int y0].toArray below meth c H locs 0 0 (MQ below (th_Q D cT T (kd q) (th_R T (some (.inl (-1, 4)))) []) [.int y0].toArray s 0 0 (th_A T [])) (F0 m 0 ls []) := by
    intro H locs ls hH hS hl
    refine lv_iload_n hx hb dX6_levelOf_0 rfl (lv_at hl 0 rfl) ?_
    by_cases c1 : y0.toInt = 37
    · refine lv_lookup (tgt := 100) (off := 99) hx hb dX6_levelOf_1 (by decide) (by rw [c1]; rfl) (by decide) ?_
      refine lv_iconst (v := 4) hx hb dX6_levelOf_100 (by decide) ?_
      exact th_iret S hK hH hS hr hlocks (th_R.i (iv_w (iv_c (by decide) : IV 4 4 4) (by decide))) dX6_levelOf_101
    · skip
      by_cases c2 : y0.toInt = 42
      · refine lv_lookup (tgt := 100) (off := 99) hx hb dX6_levelOf_1 (by decide) (by rw [c2]; rfl) (by decide) ?_
        refine lv_iconst (v := 4) hx hb dX6_levelOf_100 (by decide) ?_
        exact th_iret S hK hH hS hr hlocks (th_R.i (iv_w (iv_c (by decide) : IV 4 4 4) (by decide))) dX6_levelOf_101
      · skip
        by_cases c3 : y0.toInt = 43
        · refine lv_lookup (tgt := 98) (off := 97) hx hb dX6_levelOf_1 (by decide) (by rw [c3]; rfl) (by decide) ?_
          refine lv_iconst (v := 3) hx hb dX6_levelOf_98 (by decide) ?_
          exact th_iret S hK hH hS hr hlocks (th_R.i (iv_w (iv_c (by decide) : IV 3 3 3) (by decide))) dX6_levelOf_99
        · skip
          by_cases c4 : y0.toInt = 45
          · refine lv_lookup (tgt := 98) (off := 97) hx hb dX6_levelOf_1 (by decide) (by rw [c4]; rfl) (by decide) ?_
            refine lv_iconst (v := 3) hx hb dX6_levelOf_98 (by decide) ?_
            exact th_iret S hK hH hS hr hlocks (th_R.i (iv_w (iv_c (by decide) : IV 3 3 3) (by decide))) dX6_levelOf_99
          · skip
            by_cases c5 : y0.toInt = 47
            · refine lv_lookup (tgt := 100) (off := 99) hx hb dX6_levelOf_1 (by decide) (by rw [c5]; rfl) (by decide) ?_
              refine lv_iconst (v := 4) hx hb dX6_levelOf_100 (by decide) ?_
              exact th_iret S hK hH hS hr hlocks (th_R.i (iv_w (iv_c (by decide) : IV 4 4 4) (by decide))) dX6_levelOf_101
            · skip
              by_cases c6 : y0.toInt = 60
              · refine lv_lookup (tgt := 96) (off := 95) hx hb dX6_levelOf_1 (by decide) (by rw [c6]; rfl) (by decide) ?_
                refine lv_iconst (v := 2) hx hb dX6_levelOf_96 (by decide) ?_
                exact th_iret S hK hH hS hr hlocks (th_R.i (iv_w (iv_c (by decide) : IV 2 2 2) (by decide))) dX6_levelOf_97
              · skip
                by_cases c7 : y0.toInt = 61
                · refine lv_lookup (tgt := 96) (off := 95) hx hb dX6_levelOf_1 (by decide) (by rw [c7]; rfl) (by decide) ?_
                  refine lv_iconst (v := 2) hx hb dX6_levelOf_96 (by decide) ?_
                  exact th_iret S hK hH hS hr hlocks (th_R.i (iv_w (iv_c (by decide) : IV 2 2 2) (by decide))) dX6_levelOf_97
                · skip
                  by_cases c8 : y0.toInt = 62
                  · refine lv_lookup (tgt := 96) (off := 95) hx hb dX6_levelOf_1 (by decide) (by rw [c8]; rfl) (by decide) ?_
                    refine lv_iconst (v := 2) hx hb dX6_levelOf_96 (by decide) ?_
                    exact th_iret S hK hH hS hr hlocks (th_R.i (iv_w (iv_c (by decide) : IV 2 2 2) (by decide))) dX6_levelOf_97
                  · skip
                    by_cases c9 : y0.toInt = 147
                    · refine lv_lookup (tgt := 92) (off := 91) hx hb dX6_levelOf_1 (by decide) (by rw [c9]; rfl) (by decide) ?_
                      refine lv_iconst (v := 0) hx hb dX6_levelOf_92 (by decide) ?_
                      exact th_iret S hK hH hS hr hlocks (th_R.i (iv_w (iv_c (by decide) : IV 0 0 0) (by decide))) dX6_levelOf_93
                    · skip
                      by_cases c10 : y0.toInt = 148
                      · refine lv_lookup (tgt := 94) (off := 93) hx hb dX6_levelOf_1 (by decide) (by rw [c10]; rfl) (by decide) ?_
                        refine lv_iconst (v := 1) hx hb dX6_levelOf_94 (by decide) ?_
                        exact th_iret S hK hH hS hr hlocks (th_R.i (iv_w (iv_c (by decide) : IV 1 1 1) (by decide))) dX6_levelOf_95
                      · skip
                        refine lv_lookup (tgt := 102) (off := 101) hx hb dX6_levelOf_1 (by decide) (by simp [Op.lookupswitch.offset, Ne.symm c1, Ne.symm c2, Ne.symm c3, Ne.symm c4, Ne.symm c5, Ne.symm c6, Ne.symm c7, Ne.symm c8, Ne.symm c9, Ne.symm c10]) (by decide) ?_
                        refine lv_iconst (v := (-1)) hx hb dX6_levelOf_102 (by decide) ?_
                        exact th_iret S hK hH hS hr hlocks (th_R.i (iv_w (iv_c (by decide) : IV (-1) (-1) (-1)) (by decide))) dX6_levelOf_103
  exact J0 s.heap [] ls hH va_S.rf hl

set_option maxRecDepth 100000 in
theorem m_X6_unit_d7 (l : Launch) (D : va_G) (cT : Nat → ClassId) (T : Nat → Option Nat) (q : Nat → Int) (hq : qok q) (a0 : Nat) (t0 : T a0 = some 2) (y1 : Int32) (j1 : IV y1 7 7) : th_Met l D cT T (kd q) yX6_unit cX6_unit 4 (some .boolean) (rmk 1 22) [.ref a0, .int y1] (th_R T (some (.inl (0, 1)))) [2, 56, 57] := by
  refine th_start (by decide) (Nat.le_of_ble_eq_true rfl) ?_
  intro p e s m below meth c ls S hK hH hr hlocks hnm hl
  have hx := S.1
  have hb := S.2.1
  have hl : lv_has ls 4 [(0, .ref a0), (1, .int y1)] := hl
  have J183 : ∀ (H : Heap) (locs : List Loc) (ls : Array Slot) (w183_0 : Nat) (w183_1 : Int32) (u183_a0_3 : Int32), T w183_0 = some 56 → IV w183_1 (-2147483648) 2147483647 → IV u183_a0_3 (-2147483647) 30 → th_fa D H a0 6 3 (.int u183_a0_3) → th_H D cT T (kd q) H → va_S (th_A T [2, 56, 57]) s.heap H locs → lv_has ls 4 [(0, .ref a0)] → W p l e (rmk 1 22) s m [.ref a0, .int y1].toArray below meth c H locs 0 0 (MQ below (th_Q D cT T (kd q) (th_R T (some (.inl (0, 1)))) [2, 56, 57]) [.ref a0, .int y1].toArray s 0 0 (th_A T [2, 56, 57])) (F0 m 183 ls [.int w183_1, .ref w183_0]) := by
    intro H locs ls w183_0 w183_1 u183_a0_3 tw183_0 iw183_1 iu183_a0_3 gu183_a0_3 hH hS hl
    refine th_callVv (n := 1) (As := [.int w183_1]) S hK hH hS (th_A.sub (by decide)) (m_X2_add l D cT T q hq w183_0 tw183_0 (w183_1) iw183_1) gm_766 gm_763 gm_764 gm_765 gm_117 (by decide +kernel) ⟨rfl, rfl, Nat.le_of_ble_eq_true rfl, Nat.le_of_ble_eq_true rfl⟩ tw183_0 kd_56 rfl rfl hl.1 rfl (Nat.le_of_ble_eq_true rfl) dX6_unit_183 ⟨Nat.zero_le _, Nat.zero_le _⟩ (fun H locs hH hS hF1 => ?_)
    have f1 := gu183_a0_3.kept (hF1 _ gu183_a0_3.lt (th_off t0 (by decide)))
    refine lv_aload_n hx hb dX6_unit_186 rfl (lv_at hl 0 rfl) ?_
    refine lv_dup hx hb dX6_unit_187 rfl ?_
    refine th_get S hK hH inG6 t0 kd_2 rfl 2 (by decide) gm_342 rfl rfl dX6_unit_188 (fun v2 hv2 fv2 => ?_)
    obtain ⟨x3, rfl, ix3⟩ := th_V.int hv2
    refine lv_iconst (v := 1) hx hb dX6_unit_191 (by decide) ?_
    refine lv_iadd hx hb dX6_unit_192 ?_
    refine lv_topi (fun x4 ex4 => ?_)
    have ix4 := iv_top x4
    refine th_put S hK hH hS ⟨2, by decide, t0⟩ inG6 tyX6 tyX6_ok nmX6 t0 kd_2 rfl 2 (by decide) gm_342 rfl rfl rfl rfl (th_iv ix4) (fun _ _ => trivial) (ty := .int) (by decide +kernel) rfl rfl dX6_unit_193 (fun H locs hH hS hq1 hp1 => ?_)
    have f5 := hp1.2 3 _ (by decide) (by decide) f1
    have f6 := hp1.1
    refine lv_iconst (v := 1) hx hb dX6_unit_196 (by decide) ?_
    exact th_zret S hK hH hS hr hlocks (iv_w (iv_c (by decide) : IV 1 1 1) (by decide)) (th_R.i (iv_w (iv_c (by decide) : IV 1 1 1) (by decide))) dX6_unit_197
  have J94 : ∀ (H : Heap) (locs : List Loc) (ls : Array Slot) (v94_2 : Int32) (v94_3 : Int32) (u94_a0_3 : Int32), IV v94_2 3 142 → IV v94_3 0 1 → ¬ v94_2 = 40 → IV u94_a0_3 (-2147483648) 29 → th_fa D H a0 6 3 (.int u94_a0_3) → th_H D cT T (kd q) H → va_S (th_A T [2, 56, 57]) s.heap H locs → lv_has ls 4 [(0, .ref a0), (1, .int y1), (2, .int v94_2), (3, .int v94_3)] → W p l e (rmk 1 22) s m [.ref a0, .int y1].toArray below meth c H locs 0 0 (MQ below (th_Q D cT T (kd q) (th_R T (some (.inl (0, 1)))) [2, 56, 57]) [.ref a0, .int y1].toArray s 0 0 (th_A T [2, 56, 57])) (F0 m 94 ls []) := by
    intro H locs ls v94_2 v94_3 u94_a0_3 iv94_2 iv94_3 d94_2_40 iu94_a0_3 gu94_a0_3 hH hS hl
    refine lv_aload_n hx hb dX6_unit_94 rfl (lv_at hl 0 rfl) ?_
    refine lv_dup hx hb dX6_unit_95 rfl ?_
    refine th_getK S hK gu94_a0_3 inG6 rfl (by decide) gm_343 rfl dX6_unit_96 ?_
    refine lv_iconst (v := 1) hx hb dX6_unit_99 (by decide) ?_
    refine lv_iadd hx hb dX6_unit_100 ?_
    refine lv_topi (fun x8 ex8 => ?_)
    have ix8 : IV x8 (-2147483647) 30 := by rw [ex8]; exact iv_add iu94_a0_3 (iv_c (by decide) : IV 1 1 1) (by decide)
    refine th_put S hK hH hS ⟨2, by decide, t0⟩ inG6 tyX6 tyX6_ok nmX6 t0 kd_2 rfl 3 (by decide) gm_343 rfl rfl rfl rfl (th_iv (iv_top _)) (fun _ _ => trivial) (ty := .int) (by decide +kernel) rfl rfl dX6_unit_101 (fun H locs hH hS hq1 hp1 => ?_)
    have f9 := hp1.1
    refine lv_aload_n hx hb dX6_unit_104 rfl (lv_at hl 0 rfl) ?_
    refine th_get S hK hH inG6 t0 kd_2 rfl 1 (by decide) gm_340 rfl rfl dX6_unit_105 (fun v10 hv10 fv10 => ?_)
    obtain ⟨rf11, rfl, trf11⟩ := th_V.ref hv10
    refine th_get S hK hH inG4 trf11 kd_46 rfl 9 (by decide) gm_269 rfl rfl dX6_unit_108 (fun v12 hv12 fv12 => ?_)
    obtain ⟨rf13, rfl, trf13⟩ := th_V.ref hv12
    refine lv_dup hx hb dX6_unit_111 rfl ?_
    refine th_get S hK hH inG2 trf13 kd_56 rfl 6 (by decide) gm_202 rfl rfl dX6_unit_112 (fun v14 hv14 fv14 => ?_)
    obtain ⟨x15, rfl, ix15⟩ := th_V.int hv14
    refine lv_iconst (v := 1) hx hb dX6_unit_115 (by decide) ?_
    refine lv_iadd hx hb dX6_unit_116 ?_
    refine lv_topi (fun x16 ex16 => ?_)
    have ix16 := iv_top x16
    refine th_put S hK hH hS ⟨56, by decide, trf13⟩ inG2 tyX2 tyX2_ok nmX2 trf13 kd_56 rfl 6 (by decide) gm_202 rfl rfl rfl rfl (th_iv ix16) (fun _ _ => trivial) (ty := .int) (by decide +kernel) rfl rfl dX6_unit_117 (fun H locs hH hS hq1 hp1 => ?_)
    have f17 := f9.kept (hq1 _ (th_ne t0 trf13 (by decide)))
    have f18 := fv10.kept (hq1 _ (th_ne t0 trf13 (by decide)))
    have f19 := fv12.kept (hq1 _ (th_ne trf11 trf13 (by decide)))
    have f20 := hp1.1
    refine lv_iload_n hx hb dX6_unit_120 rfl (lv_at hl 2 rfl) ?_
    refine lv_bipush (v := 40) hx hb dX6_unit_121 (by decide) ?_
    refine lv_icmp_ne (tgt := 162) hx hb dX6_unit_123 (by decide) (fun c21 => ?_) (fun c21 => ?_)
    · skip
      refine lv_aload_n hx hb dX6_unit_162 rfl (lv_at hl 0 rfl) ?_
      refine th_getK S hK f18 inG6 rfl (by decide) gm_340 rfl dX6_unit_163 ?_
      refine th_getK S hK f19 inG4 rfl (by decide) gm_269 rfl dX6_unit_166 ?_
      refine lv_iload_n hx hb dX6_unit_169 rfl (lv_at hl 3 rfl) ?_
      refine lv_if_eq (tgt := 178) hx hb dX6_unit_170 (by decide) (fun c24 => ?_) (fun c24 => ?_)
      · skip
        have ir25 : IV v94_3 0 0 := iv_eL c24 (iv_c (by decide) : IV 0 0 0)
        refine lv_aload_n hx hb dX6_unit_178 rfl (lv_at hl 0 rfl) ?_
        refine th_callVl (n := 0) (As := []) S hK hH hS (th_A.sub (by decide)) (m_X6_value l D cT T q hq a0 t0) gm_738 gm_735 gm_737 gm_10 gm_115 (by decide +kernel) ⟨rfl, rfl, Nat.le_of_ble_eq_true rfl, Nat.le_of_ble_eq_true rfl⟩ t0 kd_2 rfl rfl hl.1 rfl (Nat.le_of_ble_eq_true rfl) dX6_unit_179 ⟨Nat.zero_le _, Nat.zero_le _⟩ (fun lg26 H locs hH hS hF1 => ?_)
        have f27 := f17.kept (hF1 _ f17.lt (th_off t0 (by decide)))
        have f28 := f18.kept (hF1 _ f18.lt (th_off t0 (by decide)))
        have f29 := f19.kept (hF1 _ f19.lt (th_off trf11 (by decide)))
        have f30 := f20.kept (hF1 _ f20.lt (th_off trf13 (by decide)))
        refine lv_l2i (v := _) hx hb dX6_unit_182 rfl ?_
        refine lv_topi (fun x31 ex31 => ?_)
        have ix31 := iv_top x31
        exact J183 H locs ls rf13 x31 x8 trf13 ix31 ix8 f27 hH hS (lv_sub hl [0] rfl)
      · skip
        have ir32 : IV v94_3 1 1 := iv_cutL iv94_3 (iv_c (by decide) : IV 0 0 0) c24 (by decide)
        refine lv_iload_n hx hb dX6_unit_173 rfl (lv_at hl 2 rfl) ?_
        refine lv_ineg hx hb dX6_unit_174 ?_
        refine lv_topi (fun x33 ex33 => ?_)
        have ix33 := iv_top x33
        refine lv_goto (tgt := 183) hx hb dX6_unit_175 (by decide) ?_
        exact J183 H locs ls rf13 x33 x8 trf13 ix33 ix8 f17 hH hS (lv_sub hl [0] rfl)
    · skip
      exact absurd c21 d94_2_40
  have J70 : ∀ (H : Heap) (locs : List Loc) (ls : Array Slot) (u70_a0_3 : Int32), IV u70_a0_3 (-2147483648) 2147483647 → th_fa D H a0 6 3 (.int u70_a0_3) → th_H D cT T (kd q) H → va_S (th_A T [2, 56, 57]) s.heap H locs → lv_has ls 4 [(0, .ref a0)] → W p l e (rmk 1 22) s m [.ref a0, .int y1].toArray below meth c H locs 0 0 (MQ below (th_Q D cT T (kd q) (th_R T (some (.inl (0, 1)))) [2, 56, 57]) [.ref a0, .int y1].toArray s 0 0 (th_A T [2, 56, 57])) (F0 m 70 ls []) := by
    intro H locs ls u70_a0_3 iu70_a0_3 gu70_a0_3 hH hS hl
    refine lv_aload_n hx hb dX6_unit_70 rfl (lv_at hl 0 rfl) ?_
    refine lv_iconst (v := 2) hx hb dX6_unit_71 (by decide) ?_
    refine th_callVi (n := 1) (As := [.int 2]) S hK hH hS (th_A.sub (by decide)) (m_X6_blame l D cT T q hq a0 t0 (2) (iv_top _)) gm_722 gm_719 gm_721 gm_6 gm_115 (by decide +kernel) ⟨rfl, rfl, Nat.le_of_ble_eq_true rfl, Nat.le_of_ble_eq_true rfl⟩ t0 kd_2 rfl rfl hl.1 rfl (Nat.le_of_ble_eq_true rfl) dX6_unit_72 ⟨Nat.zero_le _, Nat.zero_le _⟩ (fun x34 H locs ix34 hH hS hF1 => ?_)
    exact th_zret S hK hH hS hr hlocks (iv_w ix34 (by decide)) (th_R.i (iv_w ix34 (by decide))) dX6_unit_75
  have J46 : ∀ (H : Heap) (locs : List Loc) (ls : Array Slot) (v46_2 : Int32) (v46_3 : Int32), IV v46_2 3 142 → IV v46_3 0 1 → th_H D cT T (kd q) H → va_S (th_A T [2, 56, 57]) s.heap H locs → lv_has ls 4 [(0, .ref a0), (1, .int y1), (2, .int v46_2), (3, .int v46_3)] → W p l e (rmk 1 22) s m [.ref a0, .int y1].toArray below meth c H locs 0 0 (MQ below (th_Q D cT T (kd q) (th_R T (some (.inl (0, 1)))) [2, 56, 57]) [.ref a0, .int y1].toArray s 0 0 (th_A T [2, 56, 57])) (F0 m 46 ls []) := by
    intro H locs ls v46_2 v46_3 iv46_2 iv46_3 hH hS hl
    refine lv_aload_n hx hb dX6_unit_46 rfl (lv_at hl 0 rfl) ?_
    refine th_get S hK hH inG6 t0 kd_2 rfl 3 (by decide) gm_343 rfl rfl dX6_unit_47 (fun v35 hv35 fv35 => ?_)
    obtain ⟨x36, rfl, ix36⟩ := th_V.int hv35
    refine lv_bipush (v := 30) hx hb dX6_unit_50 (by decide) ?_
    refine lv_icmp_ge (tgt := 70) hx hb dX6_unit_52 (by decide) (fun c37 => ?_) (fun c37 => ?_)
    · skip
      have ir38 : IV x36 30 2147483647 := iv_vR (iv_c (by decide) : IV 30 30 30) ix36 (iv_le c37) (by decide)
      exact J70 H locs ls x36 (iv_top _) fv35 hH hS (lv_sub hl [0] rfl)
    · skip
      have ir39 : IV x36 (-2147483648) 29 := iv_uL ix36 (iv_c (by decide) : IV 30 30 30) (iv_nle c37) (by decide)
      refine lv_aload_n hx hb dX6_unit_55 rfl (lv_at hl 0 rfl) ?_
      refine th_get S hK hH inG6 t0 kd_2 rfl 1 (by decide) gm_340 rfl rfl dX6_unit_56 (fun v40 hv40 fv40 => ?_)
      obtain ⟨rf41, rfl, trf41⟩ := th_V.ref hv40
      refine th_get S hK hH inG4 trf41 kd_46 rfl 9 (by decide) gm_269 rfl rfl dX6_unit_59 (fun v42 hv42 fv42 => ?_)
      obtain ⟨rf43, rfl, trf43⟩ := th_V.ref hv42
      refine th_get S hK hH inG2 trf43 kd_56 rfl 6 (by decide) gm_202 rfl rfl dX6_unit_62 (fun v44 hv44 fv44 => ?_)
      obtain ⟨x45, rfl, ix45⟩ := th_V.int hv44
      refine lv_bipush (v := 90) hx hb dX6_unit_65 (by decide) ?_
      refine lv_icmp_lt (tgt := 76) hx hb dX6_unit_67 (by decide) (fun c46 => ?_) (fun c46 => ?_)
      · skip
        have ir47 : IV x45 (-2147483648) 89 := iv_uL ix45 (iv_c (by decide) : IV 90 90 90) (iv_lt c46) (by decide)
        refine lv_iload_n hx hb dX6_unit_76 rfl (lv_at hl 2 rfl) ?_
        refine lv_bipush (v := 40) hx hb dX6_unit_77 (by decide) ?_
        refine lv_icmp_ne (tgt := 94) hx hb dX6_unit_79 (by decide) (fun c48 => ?_) (fun c48 => ?_)
        · skip
          exact J94 H locs ls v46_2 v46_3 x36 iv46_2 iv46_3 c48 ir39 fv35 hH hS (lv_sub hl [0, 1, 2, 3] rfl)
        · skip
          have ir49 : IV v46_2 40 40 := iv_eL c48 (iv_c (by decide) : IV 40 40 40)
          refine lv_iload_n hx hb dX6_unit_82 rfl (lv_at hl 1 rfl) ?_
          refine lv_bipush (v := 7) hx hb dX6_unit_83 (by decide) ?_
          refine lv_icmp_lt (tgt := 94) hx hb dX6_unit_85 (by decide) (fun c50 => ?_) (fun c50 => ?_)
          · skip
            exfalso
            have z1 := iv_lt c50
            have z2 := (j1).1
            have z3 := (j1).2
            have z4 := ((iv_c (by decide) : IV 7 7 7)).1
            have z5 := ((iv_c (by decide) : IV 7 7 7)).2
            omega
          · skip
            refine lv_aload_n hx hb dX6_unit_88 rfl (lv_at hl 0 rfl) ?_
            refine lv_iconst (v := 2) hx hb dX6_unit_89 (by decide) ?_
            refine th_callVi (n := 1) (As := [.int 2]) S hK hH hS (th_A.sub (by decide)) (m_X6_blame l D cT T q hq a0 t0 (2) (iv_top _)) gm_722 gm_719 gm_721 gm_6 gm_115 (by decide +kernel) ⟨rfl, rfl, Nat.le_of_ble_eq_true rfl, Nat.le_of_ble_eq_true rfl⟩ t0 kd_2 rfl rfl hl.1 rfl (Nat.le_of_ble_eq_true rfl) dX6_unit_90 ⟨Nat.zero_le _, Nat.zero_le _⟩ (fun x51 H locs ix51 hH hS hF1 => ?_)
            have f52 := fv42.kept (hF1 _ fv42.lt (th_off trf41 (by decide)))
            have f53 := fv44.kept (hF1 _ fv44.lt (th_off trf43 (by decide)))
            exact th_zret S hK hH hS hr hlocks (iv_w ix51 (by decide)) (th_R.i (iv_w ix51 (by decide))) dX6_unit_93
      · skip
        have ir54 : IV x45 90 2147483647 := iv_vR (iv_c (by decide) : IV 90 90 90) ix45 (iv_nlt c46) (by decide)
        exact J70 H locs ls x36 (iv_top _) fv35 hH hS (lv_sub hl [0] rfl)
  have J24_s0_0 : ∀ (H : Heap) (locs : List Loc) (ls : Array Slot) (v24_2 : Int32), IV v24_2 (-2147483648) 2147483647 → th_H D cT T (kd q) H → va_S (th_A T [2, 56, 57]) s.heap H locs → lv_has ls 4 [(0, .ref a0), (1, .int y1), (2, .int v24_2)] → W p l e (rmk 1 22) s m [.ref a0, .int y1].toArray below meth c H locs 0 0 (MQ below (th_Q D cT T (kd q) (th_R T (some (.inl (0, 1)))) [2, 56, 57]) [.ref a0, .int y1].toArray s 0 0 (th_A T [2, 56, 57])) (F0 m 24 ls [.int 0]) := by
    intro H locs ls v24_2 iv24_2 hH hS hl
    refine lv_istore_n (lv' := [(3, .int 0), (0, .ref a0), (1, .int y1), (2, .int v24_2)]) hx hb dX6_unit_24 rfl hl (by decide) rfl (fun ls hl => ?_)
    refine lv_iload_n hx hb dX6_unit_25 rfl (lv_at hl 3 rfl) ?_
    refine lv_iconst (v := 3) hx hb dX6_unit_26 (by decide) ?_
    refine lv_icmp_eq (tgt := 46) hx hb dX6_unit_27 (by decide) (fun c55 => ?_) (fun c55 => ?_)
    · skip
      have ir56 : IV v24_2 3 3 := iv_eL c55 (iv_c (by decide) : IV 3 3 3)
      exact J46 H locs ls v24_2 0 (iv_w ir56 (by decide)) (iv_w (iv_c (by decide) : IV 0 0 0) (by decide)) hH hS (lv_sub hl [1, 2, 3, 0] rfl)
    · skip
      refine lv_iload_n hx hb dX6_unit_30 rfl (lv_at hl 3 rfl) ?_
      refine lv_bipush (v := 40) hx hb dX6_unit_31 (by decide) ?_
      refine lv_icmp_eq (tgt := 46) hx hb dX6_unit_33 (by decide) (fun c57 => ?_) (fun c57 => ?_)
      · skip
        have ir58 : IV v24_2 40 40 := iv_eL c57 (iv_c (by decide) : IV 40 40 40)
        exact J46 H locs ls v24_2 0 (iv_w ir58 (by decide)) (iv_w (iv_c (by decide) : IV 0 0 0) (by decide)) hH hS (lv_sub hl [1, 2, 3, 0] rfl)
      · skip
        refine lv_iload_n hx hb dX6_unit_36 rfl (lv_at hl 0 rfl) ?_
        refine lv_if_ne (tgt := 46) hx hb dX6_unit_37 (by decide) (fun c59 => ?_) (fun c59 => ?_)
        · skip
          exact absurd (iv_eqc (iv_c (by decide) : IV 0 0 0) (iv_c (by decide) : IV 0 0 0)) c59
        · skip
          refine lv_aload_n hx hb dX6_unit_40 rfl (lv_at hl 1 rfl) ?_
          refine lv_iconst (v := 2) hx hb dX6_unit_41 (by decide) ?_
          refine th_callVi (n := 1) (As := [.int 2]) S hK hH hS (th_A.sub (by decide)) (m_X6_blame l D cT T q hq a0 t0 (2) (iv_top _)) gm_722 gm_719 gm_721 gm_6 gm_115 (by decide +kernel) ⟨rfl, rfl, Nat.le_of_ble_eq_true rfl, Nat.le_of_ble_eq_true rfl⟩ t0 kd_2 rfl rfl hl.1 rfl (Nat.le_of_ble_eq_true rfl) dX6_unit_42 ⟨Nat.zero_le _, Nat.zero_le _⟩ (fun x60 H locs ix60 hH hS hF1 => ?_)
          exact th_zret S hK hH hS hr hlocks (iv_w ix60 (by decide)) (th_R.i (iv_w ix60 (by decide))) dX6_unit_45
  have J24_s0_1 : ∀ (H : Heap) (locs : List Loc) (ls : Array Slot) (v24_2 : Int32), IV v24_2 136 142 → th_H D cT T (kd q) H → va_S (th_A T [2, 56, 57]) s.heap H locs → lv_has ls 4 [(0, .ref a0), (1, .int y1), (2, .int v24_2)] → W p l e (rmk 1 22) s m [.ref a0, .int y1].toArray below meth c H locs 0 0 (MQ below (th_Q D cT T (kd q) (th_R T (some (.inl (0, 1)))) [2, 56, 57]) [.ref a0, .int y1].toArray s 0 0 (th_A T [2, 56, 57])) (F0 m 24 ls [.int 1]) := by
    intro H locs ls v24_2 iv24_2 hH hS hl
    refine lv_istore_n (lv' := [(3, .int 1), (0, .ref a0), (1, .int y1), (2, .int v24_2)]) hx hb dX6_unit_24 rfl hl (by decide) rfl (fun ls hl => ?_)
    refine lv_iload_n hx hb dX6_unit_25 rfl (lv_at hl 3 rfl) ?_
    refine lv_iconst (v := 3) hx hb dX6_unit_26 (by decide) ?_
    refine lv_icmp_eq (tgt := 46) hx hb dX6_unit_27 (by decide) (fun c61 => ?_) (fun c61 => ?_)
    · skip
      exfalso
      have z1 := congrArg Int32.toInt c61
      have z2 := (iv24_2).1
      have z3 := (iv24_2).2
      have z4 := ((iv_c (by decide) : IV 3 3 3)).1
      have z5 := ((iv_c (by decide) : IV 3 3 3)).2
      omega
    · skip
      refine lv_iload_n hx hb dX6_unit_30 rfl (lv_at hl 3 rfl) ?_
      refine lv_bipush (v := 40) hx hb dX6_unit_31 (by decide) ?_
      refine lv_icmp_eq (tgt := 46) hx hb dX6_unit_33 (by decide) (fun c62 => ?_) (fun c62 => ?_)
      · skip
        exfalso
        have z1 := congrArg Int32.toInt c62
        have z2 := (iv24_2).1
        have z3 := (iv24_2).2
        have z4 := ((iv_c (by decide) : IV 40 40 40)).1
        have z5 := ((iv_c (by decide) : IV 40 40 40)).2
        omega
      · skip
        refine lv_iload_n hx hb dX6_unit_36 rfl (lv_at hl 0 rfl) ?_
        refine lv_if_ne (tgt := 46) hx hb dX6_unit_37 (by decide) (fun c63 => ?_) (fun c63 => ?_)
        · skip
          exact J46 H locs ls v24_2 1 (iv_w iv24_2 (by decide)) (iv_w (iv_c (by decide) : IV 1 1 1) (by decide)) hH hS (lv_sub hl [1, 2, 3, 0] rfl)
        · skip
          exfalso
          have z1 := congrArg Int32.toInt c63
          have z2 := ((iv_c (by decide) : IV 1 1 1)).1
          have z3 := ((iv_c (by decide) : IV 1 1 1)).2
          have z4 := ((iv_c (by decide) : IV 0 0 0)).1
          have z5 := ((iv_c (by decide) : IV 0 0 0)).2
          omega
  have J23 : ∀ (H : Heap) (locs : List Loc) (ls : Array Slot) (v23_2 : Int32), IV v23_2 (-2147483648) 2147483647 → th_H D cT T (kd q) H → va_S (th_A T [2, 56, 57]) s.heap H locs → lv_has ls 4 [(0, .ref a0), (1, .int y1), (2, .int v23_2)] → W p l e (rmk 1 22) s m [.ref a0, .int y1].toArray below meth c H locs 0 0 (MQ below (th_Q D cT T (kd q) (th_R T (some (.inl (0, 1)))) [2, 56, 57]) [.ref a0, .int y1].toArray s 0 0 (th_A T [2, 56, 57])) (F0 m 23 ls []) := by
    intro H locs ls v23_2 iv23_2 hH hS hl
    refine lv_iconst (v := 0) hx hb dX6_unit_23 (by decide) ?_
    exact J24_s0_0 H locs ls v23_2 iv23_2 hH hS (lv_sub hl [0, 1, 2] rfl)
  have J0 : ∀ (H : Heap) (locs : List Loc) (ls : Array Slot), th_H D cT T (kd q) H → va_S (th_A T [2, 56, 57]) s.heap H locs → lv_has ls 4 [(0, .ref a0), (1, .int y1)] → W p l e (rmk 1 22) s m [.ref a0, .int y1].toArray below meth c H locs 0 0 (MQ below (th_Q D cT T (kd q) (th_R T (some (.inl (0, 1)))) [2, 56, 57]) [.ref a0, .int y1].toArray s 0 0 (th_A T [2, 56, 57])) (F0 m 0 ls []) := by
    intro H locs ls hH hS hl
    refine lv_aload_n hx hb dX6_unit_0 rfl (lv_at hl 0 rfl) ?_
    refine th_callVi (n := 0) (As := []) S hK hH hS (th_A.sub (by decide)) (m_X6_kind l D cT T q hq a0 t0) gm_708 gm_705 gm_707 gm_5 gm_115 (by decide +kernel) ⟨rfl, rfl, Nat.le_of_ble_eq_true rfl, Nat.le_of_ble_eq_true rfl⟩ t0 kd_2 rfl rfl hl.1 rfl (Nat.le_of_ble_eq_true rfl) dX6_unit_1 ⟨Nat.zero_le _, Nat.zero_le _⟩ (fun x64 H locs ix64 hH hS hF1 => ?_)
    refine lv_istore_n (lv' := [(2, .int x64), (0, .ref a0), (1, .int y1)]) hx hb dX6_unit_4 rfl hl (by decide) rfl (fun ls hl => ?_)
    refine lv_iload_n hx hb dX6_unit_5 rfl (lv_at hl 0 rfl) ?_
    refine lv_sipush (v := 136) hx hb dX6_unit_6 (by decide) ?_
    refine lv_icmp_lt (tgt := 23) hx hb dX6_unit_9 (by decide) (fun c65 => ?_) (fun c65 => ?_)
    · skip
      have ir66 : IV x64 (-2147483648) 135 := iv_uL ix64 (iv_c (by decide) : IV 136 136 136) (iv_lt c65) (by decide)
      exact J23 H locs ls x64 (iv_top _) hH hS (lv_sub hl [1, 2, 0] rfl)
    · skip
      have ir67 : IV x64 136 2147483647 := iv_vR (iv_c (by decide) : IV 136 136 136) ix64 (iv_nlt c65) (by decide)
      refine lv_iload_n hx hb dX6_unit_12 rfl (lv_at hl 0 rfl) ?_
      refine lv_sipush (v := 142) hx hb dX6_unit_13 (by decide) ?_
      refine lv_icmp_gt (tgt := 23) hx hb dX6_unit_16 (by decide) (fun c68 => ?_) (fun c68 => ?_)
      · skip
        have ir69 : IV x64 143 2147483647 := iv_uR (iv_c (by decide) : IV 142 142 142) ir67 (iv_lt c68) (by decide)
        exact J23 H locs ls x64 (iv_top _) hH hS (lv_sub hl [1, 2, 0] rfl)
      · skip
        have ir70 : IV x64 136 142 := iv_vL ir67 (iv_c (by decide) : IV 142 142 142) (iv_nlt c68) (by decide)
        refine lv_iconst (v := 1) hx hb dX6_unit_19 (by decide) ?_
        refine lv_goto (tgt := 24) hx hb dX6_unit_20 (by decide) ?_
        exact J24_s0_1 H locs ls x64 ir70 hH hS (lv_sub hl [1, 2, 0] rfl)
  exact J0 s.heap [] ls hH va_S.rf hl

set_option maxRecDepth 100000 in
theorem m_X6_climb_d7l5 (l : Launch) (D : va_G) (cT : Nat → ClassId) (T : Nat → Option Nat) (q : Nat → Int) (hq : qok q) (a0 : Nat) (t0 : T a0 = some 2) (y1 : Int32) (j1 : IV y1 5 5) (y2 : Int32) (j2 : IV y2 7 7) : th_Met l D cT T (kd q) yX6_climb cX6_climb 7 (some .boolean) (rmk 2 45) [.ref a0, .int y1, .int y2] (th_R T (some (.inl (0, 1)))) [2, 56, 57] := by
  refine th_start (by decide) (Nat.le_of_ble_eq_true rfl) ?_
  intro p e s m below meth c ls S hK hH hr hlocks hnm hl
  have hx := S.1
  have hb := S.2.1
  have hl : lv_has ls 7 [(0, .ref a0), (1, .int y1), (2, .int y2)] := hl
  have J83 : ∀ (n : Nat) (H : Heap) (locs : List Loc) (ls : Array Slot) (v83_3 : Int32) (v83_4 : Int32), IV v83_3 4 4 → IV v83_4 0 0 → th_H D cT T (kd q) H → va_S (th_A T [2, 56, 57]) s.heap H locs → lv_has ls 7 [(0, .ref a0), (1, .int y1), (2, .int y2), (3, .int v83_3), (4, .int v83_4)] → (4 + 1 - v83_3.toInt).toNat < n → W p l e (rmk 2 45) s m [.ref a0, .int y1, .int y2].toArray below meth c H locs 0 0 (MQ below (th_Q D cT T (kd q) (th_R T (some (.inl (0, 1)))) [2, 56, 57]) [.ref a0, .int y1, .int y2].toArray s 0 0 (th_A T [2, 56, 57])) (F0 m 83 ls []) := by
    intro n
    induction n with
    | zero => intro H locs ls v83_3 v83_4 iv83_3 iv83_4 hH hS hl hn; exact absurd hn (Nat.not_lt_zero _)
    | succ n ih83 =>
      intro H locs ls v83_3 v83_4 iv83_3 iv83_4 hH hS hl hn83
      have J120 : ∀ (H : Heap) (locs : List Loc) (ls : Array Slot), th_H D cT T (kd q) H → va_S (th_A T [2, 56, 57]) s.heap H locs → lv_has ls 7 [] → W p l e (rmk 2 45) s m [.ref a0, .int y1, .int y2].toArray below meth c H locs 0 0 (MQ below (th_Q D cT T (kd q) (th_R T (some (.inl (0, 1)))) [2, 56, 57]) [.ref a0, .int y1, .int y2].toArray s 0 0 (th_A T [2, 56, 57])) (F0 m 120 ls []) := by
        intro H locs ls hH hS hl
        refine lv_iconst (v := 1) hx hb dX6_climb_120 (by decide) ?_
        exact th_zret S hK hH hS hr hlocks (iv_w (iv_c (by decide) : IV 1 1 1) (by decide)) (th_R.i (iv_w (iv_c (by decide) : IV 1 1 1) (by decide))) dX6_climb_121
      refine lv_iload hx hb dX6_climb_83 (lv_at hl 4 rfl) ?_
      refine lv_aload_n hx hb dX6_climb_85 rfl (lv_at hl 0 rfl) ?_
      refine th_get S hK hH inG6 t0 kd_2 rfl 0 (by decide) gm_339 rfl rfl dX6_climb_86 (fun v1 hv1 fv1 => ?_)
      obtain ⟨rf2, rfl, trf2⟩ := th_V.ref hv1
      refine th_get S hK hH inG8 trf2 kd_1 rfl 5 (by decide) gm_159 rfl rfl dX6_climb_89 (fun v3 hv3 fv3 => ?_)
      obtain ⟨x4, rfl, ix4⟩ := th_V.int hv3
      refine lv_icmp_ge (tgt := 178) hx hb dX6_climb_92 (by decide) (fun c5 => ?_) (fun c5 => ?_)
      · skip
        have ir6 : IV x4 0 0 := iv_vL ix4 iv83_4 (iv_le c5) (by decide)
        refine lv_iconst (v := 1) hx hb dX6_climb_178 (by decide) ?_
        exact th_zret S hK hH hS hr hlocks (iv_w (iv_c (by decide) : IV 1 1 1) (by decide)) (th_R.i (iv_w (iv_c (by decide) : IV 1 1 1) (by decide))) dX6_climb_179
      · skip
        have ir7 : IV x4 1 1601 := iv_uR iv83_4 ix4 (iv_nle c5) (by decide)
        refine lv_aload_n hx hb dX6_climb_95 rfl (lv_at hl 0 rfl) ?_
        refine th_callVi (n := 0) (As := []) S hK hH hS (th_A.sub (by decide)) (m_X6_kind l D cT T q hq a0 t0) gm_708 gm_705 gm_707 gm_5 gm_115 (by decide +kernel) ⟨rfl, rfl, Nat.le_of_ble_eq_true rfl, Nat.le_of_ble_eq_true rfl⟩ t0 kd_2 rfl rfl hl.1 rfl (Nat.le_of_ble_eq_true rfl) dX6_climb_96 ⟨Nat.zero_le _, Nat.zero_le _⟩ (fun x8 H locs ix8 hH hS hF1 => ?_)
        refine lv_istore (lv' := [(5, .int x8), (0, .ref a0), (1, .int y1), (2, .int y2), (3, .int v83_3), (4, .int v83_4)]) hx hb dX6_climb_99 hl (by decide) rfl (fun ls hl => ?_)
        refine lv_iload hx hb dX6_climb_101 (lv_at hl 0 rfl) ?_
        refine th_callSi (n := 1) (As := [.int x8]) S hK hH hS (th_A.sub (by decide)) (m_X6_levelOf l D cT T q hq (x8) ix8) gm_773 gm_771 gm_772 gm_115 (by decide +kernel) ⟨rfl, rfl, Nat.le_of_ble_eq_true rfl, Nat.le_of_ble_eq_true rfl⟩ rfl hl.1 rfl (Nat.le_of_ble_eq_true rfl) dX6_climb_103 ⟨Nat.zero_le _, Nat.zero_le _⟩ (fun x9 H locs ix9 hH hS hF1 => ?_)
        refine lv_istore (lv' := [(6, .int x9), (5, .int x8), (0, .ref a0), (1, .int y1), (2, .int y2), (3, .int v83_3), (4, .int v83_4)]) hx hb dX6_climb_106 hl (by decide) rfl (fun ls hl => ?_)
        refine lv_iload hx hb dX6_climb_108 (lv_at hl 0 rfl) ?_
        refine lv_iload_n hx hb dX6_climb_110 rfl (lv_at hl 3 rfl) ?_
        refine lv_icmp_lt (tgt := 120) hx hb dX6_climb_111 (by decide) (fun c10 => ?_) (fun c10 => ?_)
        · skip
          exact J120 H locs ls  hH hS (lv_sub hl [] rfl)
        · skip
          exfalso
          have z1 := iv_nlt c10
          have z2 := (ix9).1
          have z3 := (ix9).2
          have z4 := (j1).1
          have z5 := (j1).2
          omega
  have J80 : ∀ (H : Heap) (locs : List Loc) (ls : Array Slot) (v80_3 : Int32), IV v80_3 4 4 → th_H D cT T (kd q) H → va_S (th_A T [2, 56, 57]) s.heap H locs → lv_has ls 7 [(0, .ref a0), (1, .int y1), (2, .int y2), (3, .int v80_3)] → W p l e (rmk 2 45) s m [.ref a0, .int y1, .int y2].toArray below meth c H locs 0 0 (MQ below (th_Q D cT T (kd q) (th_R T (some (.inl (0, 1)))) [2, 56, 57]) [.ref a0, .int y1, .int y2].toArray s 0 0 (th_A T [2, 56, 57])) (F0 m 80 ls []) := by
    intro H locs ls v80_3 iv80_3 hH hS hl
    refine lv_iconst (v := 0) hx hb dX6_climb_80 (by decide) ?_
    refine lv_istore (lv' := [(4, .int 0), (0, .ref a0), (1, .int y1), (2, .int y2), (3, .int v80_3)]) hx hb dX6_climb_81 hl (by decide) rfl (fun ls hl => ?_)
    exact J83 ((4 + 1 - Int32.toInt v80_3).toNat + 1) H locs ls v80_3 0 iv80_3 (iv_c (by decide) : IV 0 0 0) hH hS (lv_sub hl [1, 2, 3, 4, 0] rfl) (Nat.lt_succ_self _)
  have J70 : ∀ (H : Heap) (locs : List Loc) (ls : Array Slot) (v70_3 : Int32), IV v70_3 4 4 → th_H D cT T (kd q) H → va_S (th_A T [2, 56, 57]) s.heap H locs → lv_has ls 7 [(0, .ref a0), (1, .int y1), (2, .int y2), (3, .int v70_3)] → W p l e (rmk 2 45) s m [.ref a0, .int y1, .int y2].toArray below meth c H locs 0 0 (MQ below (th_Q D cT T (kd q) (th_R T (some (.inl (0, 1)))) [2, 56, 57]) [.ref a0, .int y1, .int y2].toArray s 0 0 (th_A T [2, 56, 57])) (F0 m 70 ls []) := by
    intro H locs ls v70_3 iv70_3 hH hS hl
    refine lv_aload_n hx hb dX6_climb_70 rfl (lv_at hl 0 rfl) ?_
    refine lv_iload_n hx hb dX6_climb_71 rfl (lv_at hl 2 rfl) ?_
    refine th_callVi (n := 1) (As := [.int y2]) S hK hH hS (th_A.sub (by decide)) (m_X6_unit_d7 l D cT T q hq a0 t0 (y2) j2) gm_770 gm_767 gm_769 gm_16 gm_115 (by decide +kernel) ⟨rfl, rfl, Nat.le_of_ble_eq_true rfl, Nat.le_of_ble_eq_true rfl⟩ t0 kd_2 rfl rfl hl.1 rfl (Nat.le_of_ble_eq_true rfl) dX6_climb_72 ⟨Nat.zero_le _, Nat.zero_le _⟩ (fun x11 H locs ix11 hH hS hF1 => ?_)
    refine lv_if_ne (tgt := 80) hx hb dX6_climb_75 (by decide) (fun c12 => ?_) (fun c12 => ?_)
    · skip
      have ir13 : IV x11 1 1 := iv_cutL ix11 (iv_c (by decide) : IV 0 0 0) c12 (by decide)
      exact J80 H locs ls v70_3 iv70_3 hH hS (lv_sub hl [0, 1, 2, 3] rfl)
    · skip
      have ir14 : IV x11 0 0 := iv_eL c12 (iv_c (by decide) : IV 0 0 0)
      refine lv_iconst (v := 0) hx hb dX6_climb_78 (by decide) ?_
      exact th_zret S hK hH hS hr hlocks (iv_w (iv_c (by decide) : IV 0 0 0) (by decide)) (th_R.i (iv_w (iv_c (by decide) : IV 0 0 0) (by decide))) dX6_climb_79
  have J0 : ∀ (H : Heap) (locs : List Loc) (ls : Array Slot), th_H D cT T (kd q) H → va_S (th_A T [2, 56, 57]) s.heap H locs → lv_has ls 7 [(0, .ref a0), (1, .int y1), (2, .int y2)] → W p l e (rmk 2 45) s m [.ref a0, .int y1, .int y2].toArray below meth c H locs 0 0 (MQ below (th_Q D cT T (kd q) (th_R T (some (.inl (0, 1)))) [2, 56, 57]) [.ref a0, .int y1, .int y2].toArray s 0 0 (th_A T [2, 56, 57])) (F0 m 0 ls []) := by
    intro H locs ls hH hS hl
    refine lv_iconst (v := 4) hx hb dX6_climb_0 (by decide) ?_
    refine lv_istore_n (lv' := [(3, .int 4), (0, .ref a0), (1, .int y1), (2, .int y2)]) hx hb dX6_climb_1 rfl hl (by decide) rfl (fun ls hl => ?_)
    refine lv_aload_n hx hb dX6_climb_2 rfl (lv_at hl 1 rfl) ?_
    refine th_callVi (n := 0) (As := []) S hK hH hS (th_A.sub (by decide)) (m_X6_kind l D cT T q hq a0 t0) gm_708 gm_705 gm_707 gm_5 gm_115 (by decide +kernel) ⟨rfl, rfl, Nat.le_of_ble_eq_true rfl, Nat.le_of_ble_eq_true rfl⟩ t0 kd_2 rfl rfl hl.1 rfl (Nat.le_of_ble_eq_true rfl) dX6_climb_3 ⟨Nat.zero_le _, Nat.zero_le _⟩ (fun x15 H locs ix15 hH hS hF1 => ?_)
    refine lv_sipush (v := 149) hx hb dX6_climb_6 (by decide) ?_
    refine lv_icmp_ne (tgt := 70) hx hb dX6_climb_9 (by decide) (fun c16 => ?_) (fun c16 => ?_)
    · skip
      exact J70 H locs ls 4 (iv_c (by decide) : IV 4 4 4) hH hS (lv_sub hl [1, 2, 3, 0] rfl)
    · skip
      have ir17 : IV x15 149 149 := iv_eL c16 (iv_c (by decide) : IV 149 149 149)
      refine lv_iload_n hx hb dX6_climb_12 rfl (lv_at hl 2 rfl) ?_
      refine lv_iconst (v := 2) hx hb dX6_climb_13 (by decide) ?_
      refine lv_icmp_gt (tgt := 70) hx hb dX6_climb_14 (by decide) (fun c18 => ?_) (fun c18 => ?_)
      · skip
        exact J70 H locs ls 4 (iv_c (by decide) : IV 4 4 4) hH hS (lv_sub hl [1, 2, 3, 0] rfl)
      · skip
        exfalso
        have z1 := iv_nlt c18
        have z2 := ((iv_c (by decide) : IV 2 2 2)).1
        have z3 := ((iv_c (by decide) : IV 2 2 2)).2
        have z4 := (j1).1
        have z5 := (j1).2
        omega
  exact J0 s.heap [] ls hH va_S.rf hl

set_option maxRecDepth 100000 in
theorem m_X6_climb_d7l4 (l : Launch) (D : va_G) (cT : Nat → ClassId) (T : Nat → Option Nat) (q : Nat → Int) (hq : qok q) (a0 : Nat) (t0 : T a0 = some 2) (y1 : Int32) (j1 : IV y1 4 5) (y2 : Int32) (j2 : IV y2 7 7) : th_Met l D cT T (kd q) yX6_climb cX6_climb 7 (some .boolean) (rmk 3 71) [.ref a0, .int y1, .int y2] (th_R T (some (.inl (0, 1)))) [2, 56, 57] := by
  refine th_start (by decide) (Nat.le_of_ble_eq_true rfl) ?_
  intro p e s m below meth c ls S hK hH hr hlocks hnm hl
  have hx := S.1
  have hb := S.2.1
  have hl : lv_has ls 7 [(0, .ref a0), (1, .int y1), (2, .int y2)] := hl
  have J83 : ∀ (n : Nat) (H : Heap) (locs : List Loc) (ls : Array Slot) (v83_3 : Int32) (v83_4 : Int32), IV v83_3 4 4 → IV v83_4 0 1601 → th_H D cT T (kd q) H → va_S (th_A T [2, 56, 57]) s.heap H locs → lv_has ls 7 [(0, .ref a0), (1, .int y1), (2, .int y2), (3, .int v83_3), (4, .int v83_4)] → (1601 + 1 - v83_4.toInt).toNat < n → W p l e (rmk 3 71) s m [.ref a0, .int y1, .int y2].toArray below meth c H locs 0 0 (MQ below (th_Q D cT T (kd q) (th_R T (some (.inl (0, 1)))) [2, 56, 57]) [.ref a0, .int y1, .int y2].toArray s 0 0 (th_A T [2, 56, 57])) (F0 m 83 ls []) := by
    intro n
    induction n with
    | zero => intro H locs ls v83_3 v83_4 iv83_3 iv83_4 hH hS hl hn; exact absurd hn (Nat.not_lt_zero _)
    | succ n ih83 =>
      intro H locs ls v83_3 v83_4 iv83_3 iv83_4 hH hS hl hn83
      have J171 : ∀ (H : Heap) (locs : List Loc) (ls : Array Slot) (w171_0 : Int32), IV w171_0 4 4 → IV v83_4 0 1600 → IV y1 4 4 → th_H D cT T (kd q) H → va_S (th_A T [2, 56, 57]) s.heap H locs → lv_has ls 7 [(0, .ref a0), (1, .int y1), (2, .int y2), (4, .int v83_4)] → W p l e (rmk 3 71) s m [.ref a0, .int y1, .int y2].toArray below meth c H locs 0 0 (MQ below (th_Q D cT T (kd q) (th_R T (some (.inl (0, 1)))) [2, 56, 57]) [.ref a0, .int y1, .int y2].toArray s 0 0 (th_A T [2, 56, 57])) (F0 m 171 ls [.int w171_0]) := by
        intro H locs ls w171_0 iw171_0 f171_v83_4 f171_y1 hH hS hl
        refine lv_istore_n (lv' := [(3, .int w171_0), (0, .ref a0), (1, .int y1), (2, .int y2), (4, .int v83_4)]) hx hb dX6_climb_171 rfl hl (by decide) rfl (fun ls hl => ?_)
        refine th_iinc S dX6_climb_172 hl (k := 4) rfl (by decide) f171_v83_4 (by decide) (fun x1 ls ex1 ix1 hl => ?_)
        have hl : lv_has ls 7 [(4, .int x1), (3, .int w171_0), (0, .ref a0), (1, .int y1), (2, .int y2)] := hl
        have ix1 : IV x1 1 1601 := ix1
        refine lv_goto (tgt := 83) hx hb dX6_climb_175 (by decide) ?_
        exact ih83 H locs ls w171_0 x1 iw171_0 (iv_w ix1 (by decide)) hH hS (lv_sub hl [2, 3, 4, 1, 0] rfl) (th_up iv83_4 ex1 (by decide) hn83)
      have J120 : ∀ (H : Heap) (locs : List Loc) (ls : Array Slot), th_H D cT T (kd q) H → va_S (th_A T [2, 56, 57]) s.heap H locs → lv_has ls 7 [] → W p l e (rmk 3 71) s m [.ref a0, .int y1, .int y2].toArray below meth c H locs 0 0 (MQ below (th_Q D cT T (kd q) (th_R T (some (.inl (0, 1)))) [2, 56, 57]) [.ref a0, .int y1, .int y2].toArray s 0 0 (th_A T [2, 56, 57])) (F0 m 120 ls []) := by
        intro H locs ls hH hS hl
        refine lv_iconst (v := 1) hx hb dX6_climb_120 (by decide) ?_
        exact th_zret S hK hH hS hr hlocks (iv_w (iv_c (by decide) : IV 1 1 1) (by decide)) (th_R.i (iv_w (iv_c (by decide) : IV 1 1 1) (by decide))) dX6_climb_121
      refine lv_iload hx hb dX6_climb_83 (lv_at hl 4 rfl) ?_
      refine lv_aload_n hx hb dX6_climb_85 rfl (lv_at hl 0 rfl) ?_
      refine th_get S hK hH inG6 t0 kd_2 rfl 0 (by decide) gm_339 rfl rfl dX6_climb_86 (fun v2 hv2 fv2 => ?_)
      obtain ⟨rf3, rfl, trf3⟩ := th_V.ref hv2
      refine th_get S hK hH inG8 trf3 kd_1 rfl 5 (by decide) gm_159 rfl rfl dX6_climb_89 (fun v4 hv4 fv4 => ?_)
      obtain ⟨x5, rfl, ix5⟩ := th_V.int hv4
      refine lv_icmp_ge (tgt := 178) hx hb dX6_climb_92 (by decide) (fun c6 => ?_) (fun c6 => ?_)
      · skip
        refine lv_iconst (v := 1) hx hb dX6_climb_178 (by decide) ?_
        exact th_zret S hK hH hS hr hlocks (iv_w (iv_c (by decide) : IV 1 1 1) (by decide)) (th_R.i (iv_w (iv_c (by decide) : IV 1 1 1) (by decide))) dX6_climb_179
      · skip
        have ir7 : IV v83_4 0 1600 := iv_uL iv83_4 ix5 (iv_nle c6) (by decide)
        have ir8 : IV x5 1 1601 := iv_uR iv83_4 ix5 (iv_nle c6) (by decide)
        refine lv_aload_n hx hb dX6_climb_95 rfl (lv_at hl 0 rfl) ?_
        refine th_callVi (n := 0) (As := []) S hK hH hS (th_A.sub (by decide)) (m_X6_kind l D cT T q hq a0 t0) gm_708 gm_705 gm_707 gm_5 gm_115 (by decide +kernel) ⟨rfl, rfl, Nat.le_of_ble_eq_true rfl, Nat.le_of_ble_eq_true rfl⟩ t0 kd_2 rfl rfl hl.1 rfl (Nat.le_of_ble_eq_true rfl) dX6_climb_96 ⟨Nat.zero_le _, Nat.zero_le _⟩ (fun x9 H locs ix9 hH hS hF1 => ?_)
        refine lv_istore (lv' := [(5, .int x9), (0, .ref a0), (1, .int y1), (2, .int y2), (3, .int v83_3), (4, .int v83_4)]) hx hb dX6_climb_99 hl (by decide) rfl (fun ls hl => ?_)
        refine lv_iload hx hb dX6_climb_101 (lv_at hl 0 rfl) ?_
        refine th_callSi (n := 1) (As := [.int x9]) S hK hH hS (th_A.sub (by decide)) (m_X6_levelOf l D cT T q hq (x9) ix9) gm_773 gm_771 gm_772 gm_115 (by decide +kernel) ⟨rfl, rfl, Nat.le_of_ble_eq_true rfl, Nat.le_of_ble_eq_true rfl⟩ rfl hl.1 rfl (Nat.le_of_ble_eq_true rfl) dX6_climb_103 ⟨Nat.zero_le _, Nat.zero_le _⟩ (fun x10 H locs ix10 hH hS hF1 => ?_)
        refine lv_istore (lv' := [(6, .int x10), (5, .int x9), (0, .ref a0), (1, .int y1), (2, .int y2), (3, .int v83_3), (4, .int v83_4)]) hx hb dX6_climb_106 hl (by decide) rfl (fun ls hl => ?_)
        refine lv_iload hx hb dX6_climb_108 (lv_at hl 0 rfl) ?_
        refine lv_iload_n hx hb dX6_climb_110 rfl (lv_at hl 3 rfl) ?_
        refine lv_icmp_lt (tgt := 120) hx hb dX6_climb_111 (by decide) (fun c11 => ?_) (fun c11 => ?_)
        · skip
          exact J120 H locs ls  hH hS (lv_sub hl [] rfl)
        · skip
          have ir12 : IV x10 4 4 := iv_vR j1 ix10 (iv_nlt c11) (by decide)
          have ir13 : IV y1 4 4 := iv_vL j1 ix10 (iv_nlt c11) (by decide)
          refine lv_iload hx hb dX6_climb_114 (lv_at hl 0 rfl) ?_
          refine lv_iload_n hx hb dX6_climb_116 rfl (lv_at hl 5 rfl) ?_
          refine lv_icmp_le (tgt := 122) hx hb dX6_climb_117 (by decide) (fun c14 => ?_) (fun c14 => ?_)
          · skip
            refine lv_aload_n hx hb dX6_climb_122 rfl (lv_at hl 2 rfl) ?_
            refine lv_dup hx hb dX6_climb_123 rfl ?_
            refine th_get S hK hH inG6 t0 kd_2 rfl 2 (by decide) gm_342 rfl rfl dX6_climb_124 (fun v15 hv15 fv15 => ?_)
            obtain ⟨x16, rfl, ix16⟩ := th_V.int hv15
            refine lv_iconst (v := 1) hx hb dX6_climb_127 (by decide) ?_
            refine lv_iadd hx hb dX6_climb_128 ?_
            refine lv_topi (fun x17 ex17 => ?_)
            have ix17 := iv_top x17
            refine th_put S hK hH hS ⟨2, by decide, t0⟩ inG6 tyX6 tyX6_ok nmX6 t0 kd_2 rfl 2 (by decide) gm_342 rfl rfl rfl rfl (th_iv ix17) (fun _ _ => trivial) (ty := .int) (by decide +kernel) rfl rfl dX6_climb_129 (fun H locs hH hS hq1 hp1 => ?_)
            have f18 := hp1.1
            refine lv_aload_n hx hb dX6_climb_132 rfl (lv_at hl 2 rfl) ?_
            refine lv_iload hx hb dX6_climb_133 (lv_at hl 0 rfl) ?_
            refine lv_iconst (v := 1) hx hb dX6_climb_135 (by decide) ?_
            refine lv_iadd hx hb dX6_climb_136 ?_
            refine lv_topi (fun x19 ex19 => ?_)
            have ix19 : IV x19 5 5 := by rw [ex19]; exact iv_add ir12 (iv_c (by decide) : IV 1 1 1) (by decide)
            refine lv_iload_n hx hb dX6_climb_137 rfl (lv_at hl 4 rfl) ?_
            refine th_callVi (n := 2) (As := [.int x19, .int y2]) S hK hH hS (th_A.sub (by decide)) (m_X6_climb_d7l5 l D cT T q hq a0 t0 (x19) ix19 (y2) j2) gm_762 gm_759 gm_761 gm_15 gm_115 (by decide +kernel) ⟨rfl, rfl, Nat.le_of_ble_eq_true rfl, Nat.le_of_ble_eq_true rfl⟩ t0 kd_2 rfl rfl hl.1 rfl (Nat.le_of_ble_eq_true rfl) dX6_climb_138 ⟨Nat.zero_le _, Nat.zero_le _⟩ (fun x20 H locs ix20 hH hS hF1 => ?_)
            refine lv_if_ne (tgt := 146) hx hb dX6_climb_141 (by decide) (fun c21 => ?_) (fun c21 => ?_)
            · skip
              have ir22 : IV x20 1 1 := iv_cutL ix20 (iv_c (by decide) : IV 0 0 0) c21 (by decide)
              refine lv_aload_n hx hb dX6_climb_146 rfl (lv_at hl 2 rfl) ?_
              refine th_get S hK hH inG6 t0 kd_2 rfl 1 (by decide) gm_340 rfl rfl dX6_climb_147 (fun v23 hv23 fv23 => ?_)
              obtain ⟨rf24, rfl, trf24⟩ := th_V.ref hv23
              refine th_get S hK hH inG4 trf24 kd_46 rfl 9 (by decide) gm_269 rfl rfl dX6_climb_150 (fun v25 hv25 fv25 => ?_)
              obtain ⟨rf26, rfl, trf26⟩ := th_V.ref hv25
              refine lv_iload hx hb dX6_climb_153 (lv_at hl 1 rfl) ?_
              refine lv_ineg hx hb dX6_climb_155 ?_
              refine lv_topi (fun x27 ex27 => ?_)
              have ix27 := iv_top x27
              refine th_callVv (n := 1) (As := [.int x27]) S hK hH hS (th_A.sub (by decide)) (m_X2_add l D cT T q hq rf26 trf26 (x27) ix27) gm_766 gm_763 gm_764 gm_765 gm_117 (by decide +kernel) ⟨rfl, rfl, Nat.le_of_ble_eq_true rfl, Nat.le_of_ble_eq_true rfl⟩ trf26 kd_56 rfl rfl hl.1 rfl (Nat.le_of_ble_eq_true rfl) dX6_climb_156 ⟨Nat.zero_le _, Nat.zero_le _⟩ (fun H locs hH hS hF1 => ?_)
              have f28 := fv23.kept (hF1 _ fv23.lt (th_off t0 (by decide)))
              have f29 := fv25.kept (hF1 _ fv25.lt (th_off trf24 (by decide)))
              refine lv_iload hx hb dX6_climb_159 (lv_at hl 0 rfl) ?_
              refine lv_iconst (v := 2) hx hb dX6_climb_161 (by decide) ?_
              refine lv_icmp_ne (tgt := 169) hx hb dX6_climb_162 (by decide) (fun c30 => ?_) (fun c30 => ?_)
              · skip
                refine lv_iload hx hb dX6_climb_169 (lv_at hl 0 rfl) ?_
                exact J171 H locs ls x10 ir12 ir7 ir13 hH hS (lv_sub hl [2, 3, 4, 6] rfl)
              · skip
                exfalso
                have z1 := congrArg Int32.toInt c30
                have z2 := (ir12).1
                have z3 := (ir12).2
                have z4 := ((iv_c (by decide) : IV 2 2 2)).1
                have z5 := ((iv_c (by decide) : IV 2 2 2)).2
                omega
            · skip
              have ir31 : IV x20 0 0 := iv_eL c21 (iv_c (by decide) : IV 0 0 0)
              refine lv_iconst (v := 0) hx hb dX6_climb_144 (by decide) ?_
              exact th_zret S hK hH hS hr hlocks (iv_w (iv_c (by decide) : IV 0 0 0) (by decide)) (th_R.i (iv_w (iv_c (by decide) : IV 0 0 0) (by decide))) dX6_climb_145
          · skip
            exfalso
            have z1 := iv_nle c14
            have z2 := (iv83_3).1
            have z3 := (iv83_3).2
            have z4 := (ir12).1
            have z5 := (ir12).2
            omega
  have J80 : ∀ (H : Heap) (locs : List Loc) (ls : Array Slot) (v80_3 : Int32), IV v80_3 4 4 → th_H D cT T (kd q) H → va_S (th_A T [2, 56, 57]) s.heap H locs → lv_has ls 7 [(0, .ref a0), (1, .int y1), (2, .int y2), (3, .int v80_3)] → W p l e (rmk 3 71) s m [.ref a0, .int y1, .int y2].toArray below meth c H locs 0 0 (MQ below (th_Q D cT T (kd q) (th_R T (some (.inl (0, 1)))) [2, 56, 57]) [.ref a0, .int y1, .int y2].toArray s 0 0 (th_A T [2, 56, 57])) (F0 m 80 ls []) := by
    intro H locs ls v80_3 iv80_3 hH hS hl
    refine lv_iconst (v := 0) hx hb dX6_climb_80 (by decide) ?_
    refine lv_istore (lv' := [(4, .int 0), (0, .ref a0), (1, .int y1), (2, .int y2), (3, .int v80_3)]) hx hb dX6_climb_81 hl (by decide) rfl (fun ls hl => ?_)
    exact J83 ((1601 + 1 - Int32.toInt 0).toNat + 1) H locs ls v80_3 0 iv80_3 (iv_w (iv_c (by decide) : IV 0 0 0) (by decide)) hH hS (lv_sub hl [1, 2, 3, 4, 0] rfl) (Nat.lt_succ_self _)
  have J70 : ∀ (H : Heap) (locs : List Loc) (ls : Array Slot) (v70_3 : Int32), IV v70_3 4 4 → th_H D cT T (kd q) H → va_S (th_A T [2, 56, 57]) s.heap H locs → lv_has ls 7 [(0, .ref a0), (1, .int y1), (2, .int y2), (3, .int v70_3)] → W p l e (rmk 3 71) s m [.ref a0, .int y1, .int y2].toArray below meth c H locs 0 0 (MQ below (th_Q D cT T (kd q) (th_R T (some (.inl (0, 1)))) [2, 56, 57]) [.ref a0, .int y1, .int y2].toArray s 0 0 (th_A T [2, 56, 57])) (F0 m 70 ls []) := by
    intro H locs ls v70_3 iv70_3 hH hS hl
    refine lv_aload_n hx hb dX6_climb_70 rfl (lv_at hl 0 rfl) ?_
    refine lv_iload_n hx hb dX6_climb_71 rfl (lv_at hl 2 rfl) ?_
    refine th_callVi (n := 1) (As := [.int y2]) S hK hH hS (th_A.sub (by decide)) (m_X6_unit_d7 l D cT T q hq a0 t0 (y2) j2) gm_770 gm_767 gm_769 gm_16 gm_115 (by decide +kernel) ⟨rfl, rfl, Nat.le_of_ble_eq_true rfl, Nat.le_of_ble_eq_true rfl⟩ t0 kd_2 rfl rfl hl.1 rfl (Nat.le_of_ble_eq_true rfl) dX6_climb_72 ⟨Nat.zero_le _, Nat.zero_le _⟩ (fun x32 H locs ix32 hH hS hF1 => ?_)
    refine lv_if_ne (tgt := 80) hx hb dX6_climb_75 (by decide) (fun c33 => ?_) (fun c33 => ?_)
    · skip
      have ir34 : IV x32 1 1 := iv_cutL ix32 (iv_c (by decide) : IV 0 0 0) c33 (by decide)
      exact J80 H locs ls v70_3 iv70_3 hH hS (lv_sub hl [0, 1, 2, 3] rfl)
    · skip
      have ir35 : IV x32 0 0 := iv_eL c33 (iv_c (by decide) : IV 0 0 0)
      refine lv_iconst (v := 0) hx hb dX6_climb_78 (by decide) ?_
      exact th_zret S hK hH hS hr hlocks (iv_w (iv_c (by decide) : IV 0 0 0) (by decide)) (th_R.i (iv_w (iv_c (by decide) : IV 0 0 0) (by decide))) dX6_climb_79
  have J0 : ∀ (H : Heap) (locs : List Loc) (ls : Array Slot), th_H D cT T (kd q) H → va_S (th_A T [2, 56, 57]) s.heap H locs → lv_has ls 7 [(0, .ref a0), (1, .int y1), (2, .int y2)] → W p l e (rmk 3 71) s m [.ref a0, .int y1, .int y2].toArray below meth c H locs 0 0 (MQ below (th_Q D cT T (kd q) (th_R T (some (.inl (0, 1)))) [2, 56, 57]) [.ref a0, .int y1, .int y2].toArray s 0 0 (th_A T [2, 56, 57])) (F0 m 0 ls []) := by
    intro H locs ls hH hS hl
    refine lv_iconst (v := 4) hx hb dX6_climb_0 (by decide) ?_
    refine lv_istore_n (lv' := [(3, .int 4), (0, .ref a0), (1, .int y1), (2, .int y2)]) hx hb dX6_climb_1 rfl hl (by decide) rfl (fun ls hl => ?_)
    refine lv_aload_n hx hb dX6_climb_2 rfl (lv_at hl 1 rfl) ?_
    refine th_callVi (n := 0) (As := []) S hK hH hS (th_A.sub (by decide)) (m_X6_kind l D cT T q hq a0 t0) gm_708 gm_705 gm_707 gm_5 gm_115 (by decide +kernel) ⟨rfl, rfl, Nat.le_of_ble_eq_true rfl, Nat.le_of_ble_eq_true rfl⟩ t0 kd_2 rfl rfl hl.1 rfl (Nat.le_of_ble_eq_true rfl) dX6_climb_3 ⟨Nat.zero_le _, Nat.zero_le _⟩ (fun x36 H locs ix36 hH hS hF1 => ?_)
    refine lv_sipush (v := 149) hx hb dX6_climb_6 (by decide) ?_
    refine lv_icmp_ne (tgt := 70) hx hb dX6_climb_9 (by decide) (fun c37 => ?_) (fun c37 => ?_)
    · skip
      exact J70 H locs ls 4 (iv_c (by decide) : IV 4 4 4) hH hS (lv_sub hl [1, 2, 3, 0] rfl)
    · skip
      have ir38 : IV x36 149 149 := iv_eL c37 (iv_c (by decide) : IV 149 149 149)
      refine lv_iload_n hx hb dX6_climb_12 rfl (lv_at hl 2 rfl) ?_
      refine lv_iconst (v := 2) hx hb dX6_climb_13 (by decide) ?_
      refine lv_icmp_gt (tgt := 70) hx hb dX6_climb_14 (by decide) (fun c39 => ?_) (fun c39 => ?_)
      · skip
        exact J70 H locs ls 4 (iv_c (by decide) : IV 4 4 4) hH hS (lv_sub hl [1, 2, 3, 0] rfl)
      · skip
        exfalso
        have z1 := iv_nlt c39
        have z2 := ((iv_c (by decide) : IV 2 2 2)).1
        have z3 := ((iv_c (by decide) : IV 2 2 2)).2
        have z4 := (j1).1
        have z5 := (j1).2
        omega
  exact J0 s.heap [] ls hH va_S.rf hl

set_option maxRecDepth 100000 in
theorem m_X6_climb_d7l3 (l : Launch) (D : va_G) (cT : Nat → ClassId) (T : Nat → Option Nat) (q : Nat → Int) (hq : qok q) (a0 : Nat) (t0 : T a0 = some 2) (y1 : Int32) (j1 : IV y1 3 5) (y2 : Int32) (j2 : IV y2 7 7) : th_Met l D cT T (kd q) yX6_climb cX6_climb 7 (some .boolean) (rmk 4 97) [.ref a0, .int y1, .int y2] (th_R T (some (.inl (0, 1)))) [2, 56, 57] := by
  refine th_start (by decide) (Nat.le_of_ble_eq_true rfl) ?_
  intro p e s m below meth c ls S hK hH hr hlocks hnm hl
  have hx := S.1
  have hb := S.2.1
  have hl : lv_has ls 7 [(0, .ref a0), (1, .int y1), (2, .int y2)] := hl
  have J83 : ∀ (n : Nat) (H : Heap) (locs : List Loc) (ls : Array Slot) (v83_3 : Int32) (v83_4 : Int32), IV v83_3 3 4 → IV v83_4 0 1601 → th_H D cT T (kd q) H → va_S (th_A T [2, 56, 57]) s.heap H locs → lv_has ls 7 [(0, .ref a0), (1, .int y1), (2, .int y2), (3, .int v83_3), (4, .int v83_4)] → (1601 + 1 - v83_4.toInt).toNat < n → W p l e (rmk 4 97) s m [.ref a0, .int y1, .int y2].toArray below meth c H locs 0 0 (MQ below (th_Q D cT T (kd q) (th_R T (some (.inl (0, 1)))) [2, 56, 57]) [.ref a0, .int y1, .int y2].toArray s 0 0 (th_A T [2, 56, 57])) (F0 m 83 ls []) := by
    intro n
    induction n with
    | zero => intro H locs ls v83_3 v83_4 iv83_3 iv83_4 hH hS hl hn; exact absurd hn (Nat.not_lt_zero _)
    | succ n ih83 =>
      intro H locs ls v83_3 v83_4 iv83_3 iv83_4 hH hS hl hn83
      have J171 : ∀ (H : Heap) (locs : List Loc) (ls : Array Slot) (w171_0 : Int32), IV w171_0 3 4 → IV v83_4 0 1600 → IV y1 3 4 → th_H D cT T (kd q) H → va_S (th_A T [2, 56, 57]) s.heap H locs → lv_has ls 7 [(0, .ref a0), (1, .int y1), (2, .int y2), (4, .int v83_4)] → W p l e (rmk 4 97) s m [.ref a0, .int y1, .int y2].toArray below meth c H locs 0 0 (MQ below (th_Q D cT T (kd q) (th_R T (some (.inl (0, 1)))) [2, 56, 57]) [.ref a0, .int y1, .int y2].toArray s 0 0 (th_A T [2, 56, 57])) (F0 m 171 ls [.int w171_0]) := by
        intro H locs ls w171_0 iw171_0 f171_v83_4 f171_y1 hH hS hl
        refine lv_istore_n (lv' := [(3, .int w171_0), (0, .ref a0), (1, .int y1), (2, .int y2), (4, .int v83_4)]) hx hb dX6_climb_171 rfl hl (by decide) rfl (fun ls hl => ?_)
        refine th_iinc S dX6_climb_172 hl (k := 4) rfl (by decide) f171_v83_4 (by decide) (fun x1 ls ex1 ix1 hl => ?_)
        have hl : lv_has ls 7 [(4, .int x1), (3, .int w171_0), (0, .ref a0), (1, .int y1), (2, .int y2)] := hl
        have ix1 : IV x1 1 1601 := ix1
        refine lv_goto (tgt := 83) hx hb dX6_climb_175 (by decide) ?_
        exact ih83 H locs ls w171_0 x1 iw171_0 (iv_w ix1 (by decide)) hH hS (lv_sub hl [2, 3, 4, 1, 0] rfl) (th_up iv83_4 ex1 (by decide) hn83)
      have J120 : ∀ (H : Heap) (locs : List Loc) (ls : Array Slot), th_H D cT T (kd q) H → va_S (th_A T [2, 56, 57]) s.heap H locs → lv_has ls 7 [] → W p l e (rmk 4 97) s m [.ref a0, .int y1, .int y2].toArray below meth c H locs 0 0 (MQ below (th_Q D cT T (kd q) (th_R T (some (.inl (0, 1)))) [2, 56, 57]) [.ref a0, .int y1, .int y2].toArray s 0 0 (th_A T [2, 56, 57])) (F0 m 120 ls []) := by
        intro H locs ls hH hS hl
        refine lv_iconst (v := 1) hx hb dX6_climb_120 (by decide) ?_
        exact th_zret S hK hH hS hr hlocks (iv_w (iv_c (by decide) : IV 1 1 1) (by decide)) (th_R.i (iv_w (iv_c (by decide) : IV 1 1 1) (by decide))) dX6_climb_121
      refine lv_iload hx hb dX6_climb_83 (lv_at hl 4 rfl) ?_
      refine lv_aload_n hx hb dX6_climb_85 rfl (lv_at hl 0 rfl) ?_
      refine th_get S hK hH inG6 t0 kd_2 rfl 0 (by decide) gm_339 rfl rfl dX6_climb_86 (fun v2 hv2 fv2 => ?_)
      obtain ⟨rf3, rfl, trf3⟩ := th_V.ref hv2
      refine th_get S hK hH inG8 trf3 kd_1 rfl 5 (by decide) gm_159 rfl rfl dX6_climb_89 (fun v4 hv4 fv4 => ?_)
      obtain ⟨x5, rfl, ix5⟩ := th_V.int hv4
      refine lv_icmp_ge (tgt := 178) hx hb dX6_climb_92 (by decide) (fun c6 => ?_) (fun c6 => ?_)
      · skip
        refine lv_iconst (v := 1) hx hb dX6_climb_178 (by decide) ?_
        exact th_zret S hK hH hS hr hlocks (iv_w (iv_c (by decide) : IV 1 1 1) (by decide)) (th_R.i (iv_w (iv_c (by decide) : IV 1 1 1) (by decide))) dX6_climb_179
      · skip
        have ir7 : IV v83_4 0 1600 := iv_uL iv83_4 ix5 (iv_nle c6) (by decide)
        have ir8 : IV x5 1 1601 := iv_uR iv83_4 ix5 (iv_nle c6) (by decide)
        refine lv_aload_n hx hb dX6_climb_95 rfl (lv_at hl 0 rfl) ?_
        refine th_callVi (n := 0) (As := []) S hK hH hS (th_A.sub (by decide)) (m_X6_kind l D cT T q hq a0 t0) gm_708 gm_705 gm_707 gm_5 gm_115 (by decide +kernel) ⟨rfl, rfl, Nat.le_of_ble_eq_true rfl, Nat.le_of_ble_eq_true rfl⟩ t0 kd_2 rfl rfl hl.1 rfl (Nat.le_of_ble_eq_true rfl) dX6_climb_96 ⟨Nat.zero_le _, Nat.zero_le _⟩ (fun x9 H locs ix9 hH hS hF1 => ?_)
        refine lv_istore (lv' := [(5, .int x9), (0, .ref a0), (1, .int y1), (2, .int y2), (3, .int v83_3), (4, .int v83_4)]) hx hb dX6_climb_99 hl (by decide) rfl (fun ls hl => ?_)
        refine lv_iload hx hb dX6_climb_101 (lv_at hl 0 rfl) ?_
        refine th_callSi (n := 1) (As := [.int x9]) S hK hH hS (th_A.sub (by decide)) (m_X6_levelOf l D cT T q hq (x9) ix9) gm_773 gm_771 gm_772 gm_115 (by decide +kernel) ⟨rfl, rfl, Nat.le_of_ble_eq_true rfl, Nat.le_of_ble_eq_true rfl⟩ rfl hl.1 rfl (Nat.le_of_ble_eq_true rfl) dX6_climb_103 ⟨Nat.zero_le _, Nat.zero_le _⟩ (fun x10 H locs ix10 hH hS hF1 => ?_)
        refine lv_istore (lv' := [(6, .int x10), (5, .int x9), (0, .ref a0), (1, .int y1), (2, .int y2), (3, .int v83_3), (4, .int v83_4)]) hx hb dX6_climb_106 hl (by decide) rfl (fun ls hl => ?_)
        refine lv_iload hx hb dX6_climb_108 (lv_at hl 0 rfl) ?_
        refine lv_iload_n hx hb dX6_climb_110 rfl (lv_at hl 3 rfl) ?_
        refine lv_icmp_lt (tgt := 120) hx hb dX6_climb_111 (by decide) (fun c11 => ?_) (fun c11 => ?_)
        · skip
          exact J120 H locs ls  hH hS (lv_sub hl [] rfl)
        · skip
          have ir12 : IV x10 3 4 := iv_vR j1 ix10 (iv_nlt c11) (by decide)
          have ir13 : IV y1 3 4 := iv_vL j1 ix10 (iv_nlt c11) (by decide)
          refine lv_iload hx hb dX6_climb_114 (lv_at hl 0 rfl) ?_
          refine lv_iload_n hx hb dX6_climb_116 rfl (lv_at hl 5 rfl) ?_
          refine lv_icmp_le (tgt := 122) hx hb dX6_climb_117 (by decide) (fun c14 => ?_) (fun c14 => ?_)
          · skip
            refine lv_aload_n hx hb dX6_climb_122 rfl (lv_at hl 2 rfl) ?_
            refine lv_dup hx hb dX6_climb_123 rfl ?_
            refine th_get S hK hH inG6 t0 kd_2 rfl 2 (by decide) gm_342 rfl rfl dX6_climb_124 (fun v15 hv15 fv15 => ?_)
            obtain ⟨x16, rfl, ix16⟩ := th_V.int hv15
            refine lv_iconst (v := 1) hx hb dX6_climb_127 (by decide) ?_
            refine lv_iadd hx hb dX6_climb_128 ?_
            refine lv_topi (fun x17 ex17 => ?_)
            have ix17 := iv_top x17
            refine th_put S hK hH hS ⟨2, by decide, t0⟩ inG6 tyX6 tyX6_ok nmX6 t0 kd_2 rfl 2 (by decide) gm_342 rfl rfl rfl rfl (th_iv ix17) (fun _ _ => trivial) (ty := .int) (by decide +kernel) rfl rfl dX6_climb_129 (fun H locs hH hS hq1 hp1 => ?_)
            have f18 := hp1.1
            refine lv_aload_n hx hb dX6_climb_132 rfl (lv_at hl 2 rfl) ?_
            refine lv_iload hx hb dX6_climb_133 (lv_at hl 0 rfl) ?_
            refine lv_iconst (v := 1) hx hb dX6_climb_135 (by decide) ?_
            refine lv_iadd hx hb dX6_climb_136 ?_
            refine lv_topi (fun x19 ex19 => ?_)
            have ix19 : IV x19 4 5 := by rw [ex19]; exact iv_add ir12 (iv_c (by decide) : IV 1 1 1) (by decide)
            refine lv_iload_n hx hb dX6_climb_137 rfl (lv_at hl 4 rfl) ?_
            refine th_callVi (n := 2) (As := [.int x19, .int y2]) S hK hH hS (th_A.sub (by decide)) (m_X6_climb_d7l4 l D cT T q hq a0 t0 (x19) ix19 (y2) j2) gm_762 gm_759 gm_761 gm_15 gm_115 (by decide +kernel) ⟨rfl, rfl, Nat.le_of_ble_eq_true rfl, Nat.le_of_ble_eq_true rfl⟩ t0 kd_2 rfl rfl hl.1 rfl (Nat.le_of_ble_eq_true rfl) dX6_climb_138 ⟨Nat.zero_le _, Nat.zero_le _⟩ (fun x20 H locs ix20 hH hS hF1 => ?_)
            refine lv_if_ne (tgt := 146) hx hb dX6_climb_141 (by decide) (fun c21 => ?_) (fun c21 => ?_)
            · skip
              have ir22 : IV x20 1 1 := iv_cutL ix20 (iv_c (by decide) : IV 0 0 0) c21 (by decide)
              refine lv_aload_n hx hb dX6_climb_146 rfl (lv_at hl 2 rfl) ?_
              refine th_get S hK hH inG6 t0 kd_2 rfl 1 (by decide) gm_340 rfl rfl dX6_climb_147 (fun v23 hv23 fv23 => ?_)
              obtain ⟨rf24, rfl, trf24⟩ := th_V.ref hv23
              refine th_get S hK hH inG4 trf24 kd_46 rfl 9 (by decide) gm_269 rfl rfl dX6_climb_150 (fun v25 hv25 fv25 => ?_)
              obtain ⟨rf26, rfl, trf26⟩ := th_V.ref hv25
              refine lv_iload hx hb dX6_climb_153 (lv_at hl 1 rfl) ?_
              refine lv_ineg hx hb dX6_climb_155 ?_
              refine lv_topi (fun x27 ex27 => ?_)
              have ix27 := iv_top x27
              refine th_callVv (n := 1) (As := [.int x27]) S hK hH hS (th_A.sub (by decide)) (m_X2_add l D cT T q hq rf26 trf26 (x27) ix27) gm_766 gm_763 gm_764 gm_765 gm_117 (by decide +kernel) ⟨rfl, rfl, Nat.le_of_ble_eq_true rfl, Nat.le_of_ble_eq_true rfl⟩ trf26 kd_56 rfl rfl hl.1 rfl (Nat.le_of_ble_eq_true rfl) dX6_climb_156 ⟨Nat.zero_le _, Nat.zero_le _⟩ (fun H locs hH hS hF1 => ?_)
              have f28 := fv23.kept (hF1 _ fv23.lt (th_off t0 (by decide)))
              have f29 := fv25.kept (hF1 _ fv25.lt (th_off trf24 (by decide)))
              refine lv_iload hx hb dX6_climb_159 (lv_at hl 0 rfl) ?_
              refine lv_iconst (v := 2) hx hb dX6_climb_161 (by decide) ?_
              refine lv_icmp_ne (tgt := 169) hx hb dX6_climb_162 (by decide) (fun c30 => ?_) (fun c30 => ?_)
              · skip
                refine lv_iload hx hb dX6_climb_169 (lv_at hl 0 rfl) ?_
                exact J171 H locs ls x10 ir12 ir7 ir13 hH hS (lv_sub hl [2, 3, 4, 6] rfl)
              · skip
                exfalso
                have z1 := congrArg Int32.toInt c30
                have z2 := (ir12).1
                have z3 := (ir12).2
                have z4 := ((iv_c (by decide) : IV 2 2 2)).1
                have z5 := ((iv_c (by decide) : IV 2 2 2)).2
                omega
            · skip
              have ir31 : IV x20 0 0 := iv_eL c21 (iv_c (by decide) : IV 0 0 0)
              refine lv_iconst (v := 0) hx hb dX6_climb_144 (by decide) ?_
              exact th_zret S hK hH hS hr hlocks (iv_w (iv_c (by decide) : IV 0 0 0) (by decide)) (th_R.i (iv_w (iv_c (by decide) : IV 0 0 0) (by decide))) dX6_climb_145
          · skip
            have ir32 : IV v83_3 3 3 := iv_uL iv83_3 ir12 (iv_nle c14) (by decide)
            have ir33 : IV x10 4 4 := iv_uR iv83_3 ir12 (iv_nle c14) (by decide)
            exact J120 H locs ls  hH hS (lv_sub hl [] rfl)
  have J80 : ∀ (H : Heap) (locs : List Loc) (ls : Array Slot) (v80_3 : Int32), IV v80_3 4 4 → th_H D cT T (kd q) H → va_S (th_A T [2, 56, 57]) s.heap H locs → lv_has ls 7 [(0, .ref a0), (1, .int y1), (2, .int y2), (3, .int v80_3)] → W p l e (rmk 4 97) s m [.ref a0, .int y1, .int y2].toArray below meth c H locs 0 0 (MQ below (th_Q D cT T (kd q) (th_R T (some (.inl (0, 1)))) [2, 56, 57]) [.ref a0, .int y1, .int y2].toArray s 0 0 (th_A T [2, 56, 57])) (F0 m 80 ls []) := by
    intro H locs ls v80_3 iv80_3 hH hS hl
    refine lv_iconst (v := 0) hx hb dX6_climb_80 (by decide) ?_
    refine lv_istore (lv' := [(4, .int 0), (0, .ref a0), (1, .int y1), (2, .int y2), (3, .int v80_3)]) hx hb dX6_climb_81 hl (by decide) rfl (fun ls hl => ?_)
    exact J83 ((1601 + 1 - Int32.toInt 0).toNat + 1) H locs ls v80_3 0 (iv_w iv80_3 (by decide)) (iv_w (iv_c (by decide) : IV 0 0 0) (by decide)) hH hS (lv_sub hl [1, 2, 3, 4, 0] rfl) (Nat.lt_succ_self _)
  have J70 : ∀ (H : Heap) (locs : List Loc) (ls : Array Slot) (v70_3 : Int32), IV v70_3 4 4 → th_H D cT T (kd q) H → va_S (th_A T [2, 56, 57]) s.heap H locs → lv_has ls 7 [(0, .ref a0), (1, .int y1), (2, .int y2), (3, .int v70_3)] → W p l e (rmk 4 97) s m [.ref a0, .int y1, .int y2].toArray below meth c H locs 0 0 (MQ below (th_Q D cT T (kd q) (th_R T (some (.inl (0, 1)))) [2, 56, 57]) [.ref a0, .int y1, .int y2].toArray s 0 0 (th_A T [2, 56, 57])) (F0 m 70 ls []) := by
    intro H locs ls v70_3 iv70_3 hH hS hl
    refine lv_aload_n hx hb dX6_climb_70 rfl (lv_at hl 0 rfl) ?_
    refine lv_iload_n hx hb dX6_climb_71 rfl (lv_at hl 2 rfl) ?_
    refine th_callVi (n := 1) (As := [.int y2]) S hK hH hS (th_A.sub (by decide)) (m_X6_unit_d7 l D cT T q hq a0 t0 (y2) j2) gm_770 gm_767 gm_769 gm_16 gm_115 (by decide +kernel) ⟨rfl, rfl, Nat.le_of_ble_eq_true rfl, Nat.le_of_ble_eq_true rfl⟩ t0 kd_2 rfl rfl hl.1 rfl (Nat.le_of_ble_eq_true rfl) dX6_climb_72 ⟨Nat.zero_le _, Nat.zero_le _⟩ (fun x34 H locs ix34 hH hS hF1 => ?_)
    refine lv_if_ne (tgt := 80) hx hb dX6_climb_75 (by decide) (fun c35 => ?_) (fun c35 => ?_)
    · skip
      have ir36 : IV x34 1 1 := iv_cutL ix34 (iv_c (by decide) : IV 0 0 0) c35 (by decide)
      exact J80 H locs ls v70_3 iv70_3 hH hS (lv_sub hl [0, 1, 2, 3] rfl)
    · skip
      have ir37 : IV x34 0 0 := iv_eL c35 (iv_c (by decide) : IV 0 0 0)
      refine lv_iconst (v := 0) hx hb dX6_climb_78 (by decide) ?_
      exact th_zret S hK hH hS hr hlocks (iv_w (iv_c (by decide) : IV 0 0 0) (by decide)) (th_R.i (iv_w (iv_c (by decide) : IV 0 0 0) (by decide))) dX6_climb_79
  have J0 : ∀ (H : Heap) (locs : List Loc) (ls : Array Slot), th_H D cT T (kd q) H → va_S (th_A T [2, 56, 57]) s.heap H locs → lv_has ls 7 [(0, .ref a0), (1, .int y1), (2, .int y2)] → W p l e (rmk 4 97) s m [.ref a0, .int y1, .int y2].toArray below meth c H locs 0 0 (MQ below (th_Q D cT T (kd q) (th_R T (some (.inl (0, 1)))) [2, 56, 57]) [.ref a0, .int y1, .int y2].toArray s 0 0 (th_A T [2, 56, 57])) (F0 m 0 ls []) := by
    intro H locs ls hH hS hl
    refine lv_iconst (v := 4) hx hb dX6_climb_0 (by decide) ?_
    refine lv_istore_n (lv' := [(3, .int 4), (0, .ref a0), (1, .int y1), (2, .int y2)]) hx hb dX6_climb_1 rfl hl (by decide) rfl (fun ls hl => ?_)
    refine lv_aload_n hx hb dX6_climb_2 rfl (lv_at hl 1 rfl) ?_
    refine th_callVi (n := 0) (As := []) S hK hH hS (th_A.sub (by decide)) (m_X6_kind l D cT T q hq a0 t0) gm_708 gm_705 gm_707 gm_5 gm_115 (by decide +kernel) ⟨rfl, rfl, Nat.le_of_ble_eq_true rfl, Nat.le_of_ble_eq_true rfl⟩ t0 kd_2 rfl rfl hl.1 rfl (Nat.le_of_ble_eq_true rfl) dX6_climb_3 ⟨Nat.zero_le _, Nat.zero_le _⟩ (fun x38 H locs ix38 hH hS hF1 => ?_)
    refine lv_sipush (v := 149) hx hb dX6_climb_6 (by decide) ?_
    refine lv_icmp_ne (tgt := 70) hx hb dX6_climb_9 (by decide) (fun c39 => ?_) (fun c39 => ?_)
    · skip
      exact J70 H locs ls 4 (iv_c (by decide) : IV 4 4 4) hH hS (lv_sub hl [1, 2, 3, 0] rfl)
    · skip
      have ir40 : IV x38 149 149 := iv_eL c39 (iv_c (by decide) : IV 149 149 149)
      refine lv_iload_n hx hb dX6_climb_12 rfl (lv_at hl 2 rfl) ?_
      refine lv_iconst (v := 2) hx hb dX6_climb_13 (by decide) ?_
      refine lv_icmp_gt (tgt := 70) hx hb dX6_climb_14 (by decide) (fun c41 => ?_) (fun c41 => ?_)
      · skip
        exact J70 H locs ls 4 (iv_c (by decide) : IV 4 4 4) hH hS (lv_sub hl [1, 2, 3, 0] rfl)
      · skip
        exfalso
        have z1 := iv_nlt c41
        have z2 := ((iv_c (by decide) : IV 2 2 2)).1
        have z3 := ((iv_c (by decide) : IV 2 2 2)).2
        have z4 := (j1).1
        have z5 := (j1).2
        omega
  exact J0 s.heap [] ls hH va_S.rf hl

set_option maxRecDepth 100000 in
theorem m_X6_climb_d7l2 (l : Launch) (D : va_G) (cT : Nat → ClassId) (T : Nat → Option Nat) (q : Nat → Int) (hq : qok q) (a0 : Nat) (t0 : T a0 = some 2) (y1 : Int32) (j1 : IV y1 2 5) (y2 : Int32) (j2 : IV y2 7 7) : th_Met l D cT T (kd q) yX6_climb cX6_climb 7 (some .boolean) (rmk 5 123) [.ref a0, .int y1, .int y2] (th_R T (some (.inl (0, 1)))) [2, 56, 57] := by
  refine th_start (by decide) (Nat.le_of_ble_eq_true rfl) ?_
  intro p e s m below meth c ls S hK hH hr hlocks hnm hl
  have hx := S.1
  have hb := S.2.1
  have hl : lv_has ls 7 [(0, .ref a0), (1, .int y1), (2, .int y2)] := hl
  have J83 : ∀ (n : Nat) (H : Heap) (locs : List Loc) (ls : Array Slot) (v83_3 : Int32) (v83_4 : Int32), IV v83_3 1 4 → IV v83_4 0 1601 → th_H D cT T (kd q) H → va_S (th_A T [2, 56, 57]) s.heap H locs → lv_has ls 7 [(0, .ref a0), (1, .int y1), (2, .int y2), (3, .int v83_3), (4, .int v83_4)] → (1601 + 1 - v83_4.toInt).toNat < n → W p l e (rmk 5 123) s m [.ref a0, .int y1, .int y2].toArray below meth c H locs 0 0 (MQ below (th_Q D cT T (kd q) (th_R T (some (.inl (0, 1)))) [2, 56, 57]) [.ref a0, .int y1, .int y2].toArray s 0 0 (th_A T [2, 56, 57])) (F0 m 83 ls []) := by
    intro n
    induction n with
    | zero => intro H locs ls v83_3 v83_4 iv83_3 iv83_4 hH hS hl hn; exact absurd hn (Nat.not_lt_zero _)
    | succ n ih83 =>
      intro H locs ls v83_3 v83_4 iv83_3 iv83_4 hH hS hl hn83
      have J171 : ∀ (H : Heap) (locs : List Loc) (ls : Array Slot) (w171_0 : Int32), IV w171_0 3 4 → IV v83_4 0 1600 → IV y1 2 4 → th_H D cT T (kd q) H → va_S (th_A T [2, 56, 57]) s.heap H locs → lv_has ls 7 [(0, .ref a0), (1, .int y1), (2, .int y2), (4, .int v83_4)] → W p l e (rmk 5 123) s m [.ref a0, .int y1, .int y2].toArray below meth c H locs 0 0 (MQ below (th_Q D cT T (kd q) (th_R T (some (.inl (0, 1)))) [2, 56, 57]) [.ref a0, .int y1, .int y2].toArray s 0 0 (th_A T [2, 56, 57])) (F0 m 171 ls [.int w171_0]) := by
        intro H locs ls w171_0 iw171_0 f171_v83_4 f171_y1 hH hS hl
        refine lv_istore_n (lv' := [(3, .int w171_0), (0, .ref a0), (1, .int y1), (2, .int y2), (4, .int v83_4)]) hx hb dX6_climb_171 rfl hl (by decide) rfl (fun ls hl => ?_)
        refine th_iinc S dX6_climb_172 hl (k := 4) rfl (by decide) f171_v83_4 (by decide) (fun x1 ls ex1 ix1 hl => ?_)
        have hl : lv_has ls 7 [(4, .int x1), (3, .int w171_0), (0, .ref a0), (1, .int y1), (2, .int y2)] := hl
        have ix1 : IV x1 1 1601 := ix1
        refine lv_goto (tgt := 83) hx hb dX6_climb_175 (by decide) ?_
        exact ih83 H locs ls w171_0 x1 (iv_w iw171_0 (by decide)) (iv_w ix1 (by decide)) hH hS (lv_sub hl [2, 3, 4, 1, 0] rfl) (th_up iv83_4 ex1 (by decide) hn83)
      have J171_s0_1 : ∀ (H : Heap) (locs : List Loc) (ls : Array Slot), IV v83_4 0 1600 → IV y1 2 4 → th_H D cT T (kd q) H → va_S (th_A T [2, 56, 57]) s.heap H locs → lv_has ls 7 [(0, .ref a0), (1, .int y1), (2, .int y2), (4, .int v83_4)] → W p l e (rmk 5 123) s m [.ref a0, .int y1, .int y2].toArray below meth c H locs 0 0 (MQ below (th_Q D cT T (kd q) (th_R T (some (.inl (0, 1)))) [2, 56, 57]) [.ref a0, .int y1, .int y2].toArray s 0 0 (th_A T [2, 56, 57])) (F0 m 171 ls [.int 1]) := by
        intro H locs ls f171_v83_4 f171_y1 hH hS hl
        refine lv_istore_n (lv' := [(3, .int 1), (0, .ref a0), (1, .int y1), (2, .int y2), (4, .int v83_4)]) hx hb dX6_climb_171 rfl hl (by decide) rfl (fun ls hl => ?_)
        refine th_iinc S dX6_climb_172 hl (k := 4) rfl (by decide) f171_v83_4 (by decide) (fun x2 ls ex2 ix2 hl => ?_)
        have hl : lv_has ls 7 [(4, .int x2), (3, .int 1), (0, .ref a0), (1, .int y1), (2, .int y2)] := hl
        have ix2 : IV x2 1 1601 := ix2
        refine lv_goto (tgt := 83) hx hb dX6_climb_175 (by decide) ?_
        exact ih83 H locs ls 1 x2 (iv_w (iv_c (by decide) : IV 1 1 1) (by decide)) (iv_w ix2 (by decide)) hH hS (lv_sub hl [2, 3, 4, 1, 0] rfl) (th_up iv83_4 ex2 (by decide) hn83)
      have J120 : ∀ (H : Heap) (locs : List Loc) (ls : Array Slot), th_H D cT T (kd q) H → va_S (th_A T [2, 56, 57]) s.heap H locs → lv_has ls 7 [] → W p l e (rmk 5 123) s m [.ref a0, .int y1, .int y2].toArray below meth c H locs 0 0 (MQ below (th_Q D cT T (kd q) (th_R T (some (.inl (0, 1)))) [2, 56, 57]) [.ref a0, .int y1, .int y2].toArray s 0 0 (th_A T [2, 56, 57])) (F0 m 120 ls []) := by
        intro H locs ls hH hS hl
        refine lv_iconst (v := 1) hx hb dX6_climb_120 (by decide) ?_
        exact th_zret S hK hH hS hr hlocks (iv_w (iv_c (by decide) : IV 1 1 1) (by decide)) (th_R.i (iv_w (iv_c (by decide) : IV 1 1 1) (by decide))) dX6_climb_121
      refine lv_iload hx hb dX6_climb_83 (lv_at hl 4 rfl) ?_
      refine lv_aload_n hx hb dX6_climb_85 rfl (lv_at hl 0 rfl) ?_
      refine th_get S hK hH inG6 t0 kd_2 rfl 0 (by decide) gm_339 rfl rfl dX6_climb_86 (fun v3 hv3 fv3 => ?_)
      obtain ⟨rf4, rfl, trf4⟩ := th_V.ref hv3
      refine th_get S hK hH inG8 trf4 kd_1 rfl 5 (by decide) gm_159 rfl rfl dX6_climb_89 (fun v5 hv5 fv5 => ?_)
      obtain ⟨x6, rfl, ix6⟩ := th_V.int hv5
      refine lv_icmp_ge (tgt := 178) hx hb dX6_climb_92 (by decide) (fun c7 => ?_) (fun c7 => ?_)
      · skip
        refine lv_iconst (v := 1) hx hb dX6_climb_178 (by decide) ?_
        exact th_zret S hK hH hS hr hlocks (iv_w (iv_c (by decide) : IV 1 1 1) (by decide)) (th_R.i (iv_w (iv_c (by decide) : IV 1 1 1) (by decide))) dX6_climb_179
      · skip
        have ir8 : IV v83_4 0 1600 := iv_uL iv83_4 ix6 (iv_nle c7) (by decide)
        have ir9 : IV x6 1 1601 := iv_uR iv83_4 ix6 (iv_nle c7) (by decide)
        refine lv_aload_n hx hb dX6_climb_95 rfl (lv_at hl 0 rfl) ?_
        refine th_callVi (n := 0) (As := []) S hK hH hS (th_A.sub (by decide)) (m_X6_kind l D cT T q hq a0 t0) gm_708 gm_705 gm_707 gm_5 gm_115 (by decide +kernel) ⟨rfl, rfl, Nat.le_of_ble_eq_true rfl, Nat.le_of_ble_eq_true rfl⟩ t0 kd_2 rfl rfl hl.1 rfl (Nat.le_of_ble_eq_true rfl) dX6_climb_96 ⟨Nat.zero_le _, Nat.zero_le _⟩ (fun x10 H locs ix10 hH hS hF1 => ?_)
        refine lv_istore (lv' := [(5, .int x10), (0, .ref a0), (1, .int y1), (2, .int y2), (3, .int v83_3), (4, .int v83_4)]) hx hb dX6_climb_99 hl (by decide) rfl (fun ls hl => ?_)
        refine lv_iload hx hb dX6_climb_101 (lv_at hl 0 rfl) ?_
        refine th_callSi (n := 1) (As := [.int x10]) S hK hH hS (th_A.sub (by decide)) (m_X6_levelOf l D cT T q hq (x10) ix10) gm_773 gm_771 gm_772 gm_115 (by decide +kernel) ⟨rfl, rfl, Nat.le_of_ble_eq_true rfl, Nat.le_of_ble_eq_true rfl⟩ rfl hl.1 rfl (Nat.le_of_ble_eq_true rfl) dX6_climb_103 ⟨Nat.zero_le _, Nat.zero_le _⟩ (fun x11 H locs ix11 hH hS hF1 => ?_)
        refine lv_istore (lv' := [(6, .int x11), (5, .int x10), (0, .ref a0), (1, .int y1), (2, .int y2), (3, .int v83_3), (4, .int v83_4)]) hx hb dX6_climb_106 hl (by decide) rfl (fun ls hl => ?_)
        refine lv_iload hx hb dX6_climb_108 (lv_at hl 0 rfl) ?_
        refine lv_iload_n hx hb dX6_climb_110 rfl (lv_at hl 3 rfl) ?_
        refine lv_icmp_lt (tgt := 120) hx hb dX6_climb_111 (by decide) (fun c12 => ?_) (fun c12 => ?_)
        · skip
          exact J120 H locs ls  hH hS (lv_sub hl [] rfl)
        · skip
          have ir13 : IV x11 2 4 := iv_vR j1 ix11 (iv_nlt c12) (by decide)
          have ir14 : IV y1 2 4 := iv_vL j1 ix11 (iv_nlt c12) (by decide)
          refine lv_iload hx hb dX6_climb_114 (lv_at hl 0 rfl) ?_
          refine lv_iload_n hx hb dX6_climb_116 rfl (lv_at hl 5 rfl) ?_
          refine lv_icmp_le (tgt := 122) hx hb dX6_climb_117 (by decide) (fun c15 => ?_) (fun c15 => ?_)
          · skip
            have ir16 : IV v83_3 2 4 := iv_vR ir13 iv83_3 (iv_le c15) (by decide)
            refine lv_aload_n hx hb dX6_climb_122 rfl (lv_at hl 2 rfl) ?_
            refine lv_dup hx hb dX6_climb_123 rfl ?_
            refine th_get S hK hH inG6 t0 kd_2 rfl 2 (by decide) gm_342 rfl rfl dX6_climb_124 (fun v17 hv17 fv17 => ?_)
            obtain ⟨x18, rfl, ix18⟩ := th_V.int hv17
            refine lv_iconst (v := 1) hx hb dX6_climb_127 (by decide) ?_
            refine lv_iadd hx hb dX6_climb_128 ?_
            refine lv_topi (fun x19 ex19 => ?_)
            have ix19 := iv_top x19
            refine th_put S hK hH hS ⟨2, by decide, t0⟩ inG6 tyX6 tyX6_ok nmX6 t0 kd_2 rfl 2 (by decide) gm_342 rfl rfl rfl rfl (th_iv ix19) (fun _ _ => trivial) (ty := .int) (by decide +kernel) rfl rfl dX6_climb_129 (fun H locs hH hS hq1 hp1 => ?_)
            have f20 := hp1.1
            refine lv_aload_n hx hb dX6_climb_132 rfl (lv_at hl 2 rfl) ?_
            refine lv_iload hx hb dX6_climb_133 (lv_at hl 0 rfl) ?_
            refine lv_iconst (v := 1) hx hb dX6_climb_135 (by decide) ?_
            refine lv_iadd hx hb dX6_climb_136 ?_
            refine lv_topi (fun x21 ex21 => ?_)
            have ix21 : IV x21 3 5 := by rw [ex21]; exact iv_add ir13 (iv_c (by decide) : IV 1 1 1) (by decide)
            refine lv_iload_n hx hb dX6_climb_137 rfl (lv_at hl 4 rfl) ?_
            refine th_callVi (n := 2) (As := [.int x21, .int y2]) S hK hH hS (th_A.sub (by decide)) (m_X6_climb_d7l3 l D cT T q hq a0 t0 (x21) ix21 (y2) j2) gm_762 gm_759 gm_761 gm_15 gm_115 (by decide +kernel) ⟨rfl, rfl, Nat.le_of_ble_eq_true rfl, Nat.le_of_ble_eq_true rfl⟩ t0 kd_2 rfl rfl hl.1 rfl (Nat.le_of_ble_eq_true rfl) dX6_climb_138 ⟨Nat.zero_le _, Nat.zero_le _⟩ (fun x22 H locs ix22 hH hS hF1 => ?_)
            refine lv_if_ne (tgt := 146) hx hb dX6_climb_141 (by decide) (fun c23 => ?_) (fun c23 => ?_)
            · skip
              have ir24 : IV x22 1 1 := iv_cutL ix22 (iv_c (by decide) : IV 0 0 0) c23 (by decide)
              refine lv_aload_n hx hb dX6_climb_146 rfl (lv_at hl 2 rfl) ?_
              refine th_get S hK hH inG6 t0 kd_2 rfl 1 (by decide) gm_340 rfl rfl dX6_climb_147 (fun v25 hv25 fv25 => ?_)
              obtain ⟨rf26, rfl, trf26⟩ := th_V.ref hv25
              refine th_get S hK hH inG4 trf26 kd_46 rfl 9 (by decide) gm_269 rfl rfl dX6_climb_150 (fun v27 hv27 fv27 => ?_)
              obtain ⟨rf28, rfl, trf28⟩ := th_V.ref hv27
              refine lv_iload hx hb dX6_climb_153 (lv_at hl 1 rfl) ?_
              refine lv_ineg hx hb dX6_climb_155 ?_
              refine lv_topi (fun x29 ex29 => ?_)
              have ix29 := iv_top x29
              refine th_callVv (n := 1) (As := [.int x29]) S hK hH hS (th_A.sub (by decide)) (m_X2_add l D cT T q hq rf28 trf28 (x29) ix29) gm_766 gm_763 gm_764 gm_765 gm_117 (by decide +kernel) ⟨rfl, rfl, Nat.le_of_ble_eq_true rfl, Nat.le_of_ble_eq_true rfl⟩ trf28 kd_56 rfl rfl hl.1 rfl (Nat.le_of_ble_eq_true rfl) dX6_climb_156 ⟨Nat.zero_le _, Nat.zero_le _⟩ (fun H locs hH hS hF1 => ?_)
              have f30 := fv25.kept (hF1 _ fv25.lt (th_off t0 (by decide)))
              have f31 := fv27.kept (hF1 _ fv27.lt (th_off trf26 (by decide)))
              refine lv_iload hx hb dX6_climb_159 (lv_at hl 0 rfl) ?_
              refine lv_iconst (v := 2) hx hb dX6_climb_161 (by decide) ?_
              refine lv_icmp_ne (tgt := 169) hx hb dX6_climb_162 (by decide) (fun c32 => ?_) (fun c32 => ?_)
              · skip
                have ir33 : IV x11 3 4 := iv_cutL ir13 (iv_c (by decide) : IV 2 2 2) c32 (by decide)
                refine lv_iload hx hb dX6_climb_169 (lv_at hl 0 rfl) ?_
                exact J171 H locs ls x11 ir33 ir8 ir14 hH hS (lv_sub hl [2, 3, 4, 6] rfl)
              · skip
                have ir34 : IV x11 2 2 := iv_eL c32 (iv_c (by decide) : IV 2 2 2)
                refine lv_iconst (v := 1) hx hb dX6_climb_165 (by decide) ?_
                refine lv_goto (tgt := 171) hx hb dX6_climb_166 (by decide) ?_
                exact J171_s0_1 H locs ls ir8 ir14 hH hS (lv_sub hl [2, 3, 4, 6] rfl)
            · skip
              have ir35 : IV x22 0 0 := iv_eL c23 (iv_c (by decide) : IV 0 0 0)
              refine lv_iconst (v := 0) hx hb dX6_climb_144 (by decide) ?_
              exact th_zret S hK hH hS hr hlocks (iv_w (iv_c (by decide) : IV 0 0 0) (by decide)) (th_R.i (iv_w (iv_c (by decide) : IV 0 0 0) (by decide))) dX6_climb_145
          · skip
            have ir36 : IV v83_3 1 3 := iv_uL iv83_3 ir13 (iv_nle c15) (by decide)
            exact J120 H locs ls  hH hS (lv_sub hl [] rfl)
  have J80 : ∀ (H : Heap) (locs : List Loc) (ls : Array Slot) (v80_3 : Int32), IV v80_3 4 4 → th_H D cT T (kd q) H → va_S (th_A T [2, 56, 57]) s.heap H locs → lv_has ls 7 [(0, .ref a0), (1, .int y1), (2, .int y2), (3, .int v80_3)] → W p l e (rmk 5 123) s m [.ref a0, .int y1, .int y2].toArray below meth c H locs 0 0 (MQ below (th_Q D cT T (kd q) (th_R T (some (.inl (0, 1)))) [2, 56, 57]) [.ref a0, .int y1, .int y2].toArray s 0 0 (th_A T [2, 56, 57])) (F0 m 80 ls []) := by
    intro H locs ls v80_3 iv80_3 hH hS hl
    refine lv_iconst (v := 0) hx hb dX6_climb_80 (by decide) ?_
    refine lv_istore (lv' := [(4, .int 0), (0, .ref a0), (1, .int y1), (2, .int y2), (3, .int v80_3)]) hx hb dX6_climb_81 hl (by decide) rfl (fun ls hl => ?_)
    exact J83 ((1601 + 1 - Int32.toInt 0).toNat + 1) H locs ls v80_3 0 (iv_w iv80_3 (by decide)) (iv_w (iv_c (by decide) : IV 0 0 0) (by decide)) hH hS (lv_sub hl [1, 2, 3, 4, 0] rfl) (Nat.lt_succ_self _)
  have J70 : ∀ (H : Heap) (locs : List Loc) (ls : Array Slot) (v70_3 : Int32), IV v70_3 4 4 → th_H D cT T (kd q) H → va_S (th_A T [2, 56, 57]) s.heap H locs → lv_has ls 7 [(0, .ref a0), (1, .int y1), (2, .int y2), (3, .int v70_3)] → W p l e (rmk 5 123) s m [.ref a0, .int y1, .int y2].toArray below meth c H locs 0 0 (MQ below (th_Q D cT T (kd q) (th_R T (some (.inl (0, 1)))) [2, 56, 57]) [.ref a0, .int y1, .int y2].toArray s 0 0 (th_A T [2, 56, 57])) (F0 m 70 ls []) := by
    intro H locs ls v70_3 iv70_3 hH hS hl
    refine lv_aload_n hx hb dX6_climb_70 rfl (lv_at hl 0 rfl) ?_
    refine lv_iload_n hx hb dX6_climb_71 rfl (lv_at hl 2 rfl) ?_
    refine th_callVi (n := 1) (As := [.int y2]) S hK hH hS (th_A.sub (by decide)) (m_X6_unit_d7 l D cT T q hq a0 t0 (y2) j2) gm_770 gm_767 gm_769 gm_16 gm_115 (by decide +kernel) ⟨rfl, rfl, Nat.le_of_ble_eq_true rfl, Nat.le_of_ble_eq_true rfl⟩ t0 kd_2 rfl rfl hl.1 rfl (Nat.le_of_ble_eq_true rfl) dX6_climb_72 ⟨Nat.zero_le _, Nat.zero_le _⟩ (fun x37 H locs ix37 hH hS hF1 => ?_)
    refine lv_if_ne (tgt := 80) hx hb dX6_climb_75 (by decide) (fun c38 => ?_) (fun c38 => ?_)
    · skip
      have ir39 : IV x37 1 1 := iv_cutL ix37 (iv_c (by decide) : IV 0 0 0) c38 (by decide)
      exact J80 H locs ls v70_3 iv70_3 hH hS (lv_sub hl [0, 1, 2, 3] rfl)
    · skip
      have ir40 : IV x37 0 0 := iv_eL c38 (iv_c (by decide) : IV 0 0 0)
      refine lv_iconst (v := 0) hx hb dX6_climb_78 (by decide) ?_
      exact th_zret S hK hH hS hr hlocks (iv_w (iv_c (by decide) : IV 0 0 0) (by decide)) (th_R.i (iv_w (iv_c (by decide) : IV 0 0 0) (by decide))) dX6_climb_79
  have J0 : ∀ (H : Heap) (locs : List Loc) (ls : Array Slot), th_H D cT T (kd q) H → va_S (th_A T [2, 56, 57]) s.heap H locs → lv_has ls 7 [(0, .ref a0), (1, .int y1), (2, .int y2)] → W p l e (rmk 5 123) s m [.ref a0, .int y1, .int y2].toArray below meth c H locs 0 0 (MQ below (th_Q D cT T (kd q) (th_R T (some (.inl (0, 1)))) [2, 56, 57]) [.ref a0, .int y1, .int y2].toArray s 0 0 (th_A T [2, 56, 57])) (F0 m 0 ls []) := by
    intro H locs ls hH hS hl
    refine lv_iconst (v := 4) hx hb dX6_climb_0 (by decide) ?_
    refine lv_istore_n (lv' := [(3, .int 4), (0, .ref a0), (1, .int y1), (2, .int y2)]) hx hb dX6_climb_1 rfl hl (by decide) rfl (fun ls hl => ?_)
    refine lv_aload_n hx hb dX6_climb_2 rfl (lv_at hl 1 rfl) ?_
    refine th_callVi (n := 0) (As := []) S hK hH hS (th_A.sub (by decide)) (m_X6_kind l D cT T q hq a0 t0) gm_708 gm_705 gm_707 gm_5 gm_115 (by decide +kernel) ⟨rfl, rfl, Nat.le_of_ble_eq_true rfl, Nat.le_of_ble_eq_true rfl⟩ t0 kd_2 rfl rfl hl.1 rfl (Nat.le_of_ble_eq_true rfl) dX6_climb_3 ⟨Nat.zero_le _, Nat.zero_le _⟩ (fun x41 H locs ix41 hH hS hF1 => ?_)
    refine lv_sipush (v := 149) hx hb dX6_climb_6 (by decide) ?_
    refine lv_icmp_ne (tgt := 70) hx hb dX6_climb_9 (by decide) (fun c42 => ?_) (fun c42 => ?_)
    · skip
      exact J70 H locs ls 4 (iv_c (by decide) : IV 4 4 4) hH hS (lv_sub hl [1, 2, 3, 0] rfl)
    · skip
      have ir43 : IV x41 149 149 := iv_eL c42 (iv_c (by decide) : IV 149 149 149)
      refine lv_iload_n hx hb dX6_climb_12 rfl (lv_at hl 2 rfl) ?_
      refine lv_iconst (v := 2) hx hb dX6_climb_13 (by decide) ?_
      refine lv_icmp_gt (tgt := 70) hx hb dX6_climb_14 (by decide) (fun c44 => ?_) (fun c44 => ?_)
      · skip
        have ir45 : IV y1 3 5 := iv_uR (iv_c (by decide) : IV 2 2 2) j1 (iv_lt c44) (by decide)
        exact J70 H locs ls 4 (iv_c (by decide) : IV 4 4 4) hH hS (lv_sub hl [1, 2, 3, 0] rfl)
      · skip
        have ir46 : IV y1 2 2 := iv_vL j1 (iv_c (by decide) : IV 2 2 2) (iv_nlt c44) (by decide)
        refine lv_iload_n hx hb dX6_climb_17 rfl (lv_at hl 3 rfl) ?_
        refine lv_bipush (v := 7) hx hb dX6_climb_18 (by decide) ?_
        refine lv_icmp_lt (tgt := 29) hx hb dX6_climb_20 (by decide) (fun c47 => ?_) (fun c47 => ?_)
        · skip
          exfalso
          have z1 := iv_lt c47
          have z2 := (j2).1
          have z3 := (j2).2
          have z4 := ((iv_c (by decide) : IV 7 7 7)).1
          have z5 := ((iv_c (by decide) : IV 7 7 7)).2
          omega
        · skip
          refine lv_aload_n hx hb dX6_climb_23 rfl (lv_at hl 1 rfl) ?_
          refine lv_iconst (v := 2) hx hb dX6_climb_24 (by decide) ?_
          refine th_callVi (n := 1) (As := [.int 2]) S hK hH hS (th_A.sub (by decide)) (m_X6_blame l D cT T q hq a0 t0 (2) (iv_top _)) gm_722 gm_719 gm_721 gm_6 gm_115 (by decide +kernel) ⟨rfl, rfl, Nat.le_of_ble_eq_true rfl, Nat.le_of_ble_eq_true rfl⟩ t0 kd_2 rfl rfl hl.1 rfl (Nat.le_of_ble_eq_true rfl) dX6_climb_25 ⟨Nat.zero_le _, Nat.zero_le _⟩ (fun x48 H locs ix48 hH hS hF1 => ?_)
          exact th_zret S hK hH hS hr hlocks (iv_w ix48 (by decide)) (th_R.i (iv_w ix48 (by decide))) dX6_climb_28
  exact J0 s.heap [] ls hH va_S.rf hl

set_option maxRecDepth 100000 in
theorem m_X6_climb_d7l1 (l : Launch) (D : va_G) (cT : Nat → ClassId) (T : Nat → Option Nat) (q : Nat → Int) (hq : qok q) (a0 : Nat) (t0 : T a0 = some 2) (y1 : Int32) (j1 : IV y1 1 5) (y2 : Int32) (j2 : IV y2 7 7) : th_Met l D cT T (kd q) yX6_climb cX6_climb 7 (some .boolean) (rmk 6 149) [.ref a0, .int y1, .int y2] (th_R T (some (.inl (0, 1)))) [2, 56, 57] := by
  refine th_start (by decide) (Nat.le_of_ble_eq_true rfl) ?_
  intro p e s m below meth c ls S hK hH hr hlocks hnm hl
  have hx := S.1
  have hb := S.2.1
  have hl : lv_has ls 7 [(0, .ref a0), (1, .int y1), (2, .int y2)] := hl
  have J83 : ∀ (n : Nat) (H : Heap) (locs : List Loc) (ls : Array Slot) (v83_3 : Int32) (v83_4 : Int32), IV v83_3 1 4 → IV v83_4 0 1601 → th_H D cT T (kd q) H → va_S (th_A T [2, 56, 57]) s.heap H locs → lv_has ls 7 [(0, .ref a0), (1, .int y1), (2, .int y2), (3, .int v83_3), (4, .int v83_4)] → (1601 + 1 - v83_4.toInt).toNat < n → W p l e (rmk 6 149) s m [.ref a0, .int y1, .int y2].toArray below meth c H locs 0 0 (MQ below (th_Q D cT T (kd q) (th_R T (some (.inl (0, 1)))) [2, 56, 57]) [.ref a0, .int y1, .int y2].toArray s 0 0 (th_A T [2, 56, 57])) (F0 m 83 ls []) := by
    intro n
    induction n with
    | zero => intro H locs ls v83_3 v83_4 iv83_3 iv83_4 hH hS hl hn; exact absurd hn (Nat.not_lt_zero _)
    | succ n ih83 =>
      intro H locs ls v83_3 v83_4 iv83_3 iv83_4 hH hS hl hn83
      have J171 : ∀ (H : Heap) (locs : List Loc) (ls : Array Slot) (w171_0 : Int32), IV w171_0 1 4 → IV v83_4 0 1600 → IV y1 1 4 → th_H D cT T (kd q) H → va_S (th_A T [2, 56, 57]) s.heap H locs → lv_has ls 7 [(0, .ref a0), (1, .int y1), (2, .int y2), (4, .int v83_4)] → W p l e (rmk 6 149) s m [.ref a0, .int y1, .int y2].toArray below meth c H locs 0 0 (MQ below (th_Q D cT T (kd q) (th_R T (some (.inl (0, 1)))) [2, 56, 57]) [.ref a0, .int y1, .int y2].toArray s 0 0 (th_A T [2, 56, 57])) (F0 m 171 ls [.int w171_0]) := by
        intro H locs ls w171_0 iw171_0 f171_v83_4 f171_y1 hH hS hl
        refine lv_istore_n (lv' := [(3, .int w171_0), (0, .ref a0), (1, .int y1), (2, .int y2), (4, .int v83_4)]) hx hb dX6_climb_171 rfl hl (by decide) rfl (fun ls hl => ?_)
        refine th_iinc S dX6_climb_172 hl (k := 4) rfl (by decide) f171_v83_4 (by decide) (fun x1 ls ex1 ix1 hl => ?_)
        have hl : lv_has ls 7 [(4, .int x1), (3, .int w171_0), (0, .ref a0), (1, .int y1), (2, .int y2)] := hl
        have ix1 : IV x1 1 1601 := ix1
        refine lv_goto (tgt := 83) hx hb dX6_climb_175 (by decide) ?_
        exact ih83 H locs ls w171_0 x1 iw171_0 (iv_w ix1 (by decide)) hH hS (lv_sub hl [2, 3, 4, 1, 0] rfl) (th_up iv83_4 ex1 (by decide) hn83)
      have J171_s0_1 : ∀ (H : Heap) (locs : List Loc) (ls : Array Slot), IV v83_4 0 1600 → IV y1 1 4 → th_H D cT T (kd q) H → va_S (th_A T [2, 56, 57]) s.heap H locs → lv_has ls 7 [(0, .ref a0), (1, .int y1), (2, .int y2), (4, .int v83_4)] → W p l e (rmk 6 149) s m [.ref a0, .int y1, .int y2].toArray below meth c H locs 0 0 (MQ below (th_Q D cT T (kd q) (th_R T (some (.inl (0, 1)))) [2, 56, 57]) [.ref a0, .int y1, .int y2].toArray s 0 0 (th_A T [2, 56, 57])) (F0 m 171 ls [.int 1]) := by
        intro H locs ls f171_v83_4 f171_y1 hH hS hl
        refine lv_istore_n (lv' := [(3, .int 1), (0, .ref a0), (1, .int y1), (2, .int y2), (4, .int v83_4)]) hx hb dX6_climb_171 rfl hl (by decide) rfl (fun ls hl => ?_)
        refine th_iinc S dX6_climb_172 hl (k := 4) rfl (by decide) f171_v83_4 (by decide) (fun x2 ls ex2 ix2 hl => ?_)
        have hl : lv_has ls 7 [(4, .int x2), (3, .int 1), (0, .ref a0), (1, .int y1), (2, .int y2)] := hl
        have ix2 : IV x2 1 1601 := ix2
        refine lv_goto (tgt := 83) hx hb dX6_climb_175 (by decide) ?_
        exact ih83 H locs ls 1 x2 (iv_w (iv_c (by decide) : IV 1 1 1) (by decide)) (iv_w ix2 (by decide)) hH hS (lv_sub hl [2, 3, 4, 1, 0] rfl) (th_up iv83_4 ex2 (by decide) hn83)
      have J120 : ∀ (H : Heap) (locs : List Loc) (ls : Array Slot), th_H D cT T (kd q) H → va_S (th_A T [2, 56, 57]) s.heap H locs → lv_has ls 7 [] → W p l e (rmk 6 149) s m [.ref a0, .int y1, .int y2].toArray below meth c H locs 0 0 (MQ below (th_Q D cT T (kd q) (th_R T (some (.inl (0, 1)))) [2, 56, 57]) [.ref a0, .int y1, .int y2].toArray s 0 0 (th_A T [2, 56, 57])) (F0 m 120 ls []) := by
        intro H locs ls hH hS hl
        refine lv_iconst (v := 1) hx hb dX6_climb_120 (by decide) ?_
        exact th_zret S hK hH hS hr hlocks (iv_w (iv_c (by decide) : IV 1 1 1) (by decide)) (th_R.i (iv_w (iv_c (by decide) : IV 1 1 1) (by decide))) dX6_climb_121
      refine lv_iload hx hb dX6_climb_83 (lv_at hl 4 rfl) ?_
      refine lv_aload_n hx hb dX6_climb_85 rfl (lv_at hl 0 rfl) ?_
      refine th_get S hK hH inG6 t0 kd_2 rfl 0 (by decide) gm_339 rfl rfl dX6_climb_86 (fun v3 hv3 fv3 => ?_)
      obtain ⟨rf4, rfl, trf4⟩ := th_V.ref hv3
      refine th_get S hK hH inG8 trf4 kd_1 rfl 5 (by decide) gm_159 rfl rfl dX6_climb_89 (fun v5 hv5 fv5 => ?_)
      obtain ⟨x6, rfl, ix6⟩ := th_V.int hv5
      refine lv_icmp_ge (tgt := 178) hx hb dX6_climb_92 (by decide) (fun c7 => ?_) (fun c7 => ?_)
      · skip
        refine lv_iconst (v := 1) hx hb dX6_climb_178 (by decide) ?_
        exact th_zret S hK hH hS hr hlocks (iv_w (iv_c (by decide) : IV 1 1 1) (by decide)) (th_R.i (iv_w (iv_c (by decide) : IV 1 1 1) (by decide))) dX6_climb_179
      · skip
        have ir8 : IV v83_4 0 1600 := iv_uL iv83_4 ix6 (iv_nle c7) (by decide)
        have ir9 : IV x6 1 1601 := iv_uR iv83_4 ix6 (iv_nle c7) (by decide)
        refine lv_aload_n hx hb dX6_climb_95 rfl (lv_at hl 0 rfl) ?_
        refine th_callVi (n := 0) (As := []) S hK hH hS (th_A.sub (by decide)) (m_X6_kind l D cT T q hq a0 t0) gm_708 gm_705 gm_707 gm_5 gm_115 (by decide +kernel) ⟨rfl, rfl, Nat.le_of_ble_eq_true rfl, Nat.le_of_ble_eq_true rfl⟩ t0 kd_2 rfl rfl hl.1 rfl (Nat.le_of_ble_eq_true rfl) dX6_climb_96 ⟨Nat.zero_le _, Nat.zero_le _⟩ (fun x10 H locs ix10 hH hS hF1 => ?_)
        refine lv_istore (lv' := [(5, .int x10), (0, .ref a0), (1, .int y1), (2, .int y2), (3, .int v83_3), (4, .int v83_4)]) hx hb dX6_climb_99 hl (by decide) rfl (fun ls hl => ?_)
        refine lv_iload hx hb dX6_climb_101 (lv_at hl 0 rfl) ?_
        refine th_callSi (n := 1) (As := [.int x10]) S hK hH hS (th_A.sub (by decide)) (m_X6_levelOf l D cT T q hq (x10) ix10) gm_773 gm_771 gm_772 gm_115 (by decide +kernel) ⟨rfl, rfl, Nat.le_of_ble_eq_true rfl, Nat.le_of_ble_eq_true rfl⟩ rfl hl.1 rfl (Nat.le_of_ble_eq_true rfl) dX6_climb_103 ⟨Nat.zero_le _, Nat.zero_le _⟩ (fun x11 H locs ix11 hH hS hF1 => ?_)
        refine lv_istore (lv' := [(6, .int x11), (5, .int x10), (0, .ref a0), (1, .int y1), (2, .int y2), (3, .int v83_3), (4, .int v83_4)]) hx hb dX6_climb_106 hl (by decide) rfl (fun ls hl => ?_)
        refine lv_iload hx hb dX6_climb_108 (lv_at hl 0 rfl) ?_
        refine lv_iload_n hx hb dX6_climb_110 rfl (lv_at hl 3 rfl) ?_
        refine lv_icmp_lt (tgt := 120) hx hb dX6_climb_111 (by decide) (fun c12 => ?_) (fun c12 => ?_)
        · skip
          exact J120 H locs ls  hH hS (lv_sub hl [] rfl)
        · skip
          have ir13 : IV x11 1 4 := iv_vR j1 ix11 (iv_nlt c12) (by decide)
          have ir14 : IV y1 1 4 := iv_vL j1 ix11 (iv_nlt c12) (by decide)
          refine lv_iload hx hb dX6_climb_114 (lv_at hl 0 rfl) ?_
          refine lv_iload_n hx hb dX6_climb_116 rfl (lv_at hl 5 rfl) ?_
          refine lv_icmp_le (tgt := 122) hx hb dX6_climb_117 (by decide) (fun c15 => ?_) (fun c15 => ?_)
          · skip
            refine lv_aload_n hx hb dX6_climb_122 rfl (lv_at hl 2 rfl) ?_
            refine lv_dup hx hb dX6_climb_123 rfl ?_
            refine th_get S hK hH inG6 t0 kd_2 rfl 2 (by decide) gm_342 rfl rfl dX6_climb_124 (fun v16 hv16 fv16 => ?_)
            obtain ⟨x17, rfl, ix17⟩ := th_V.int hv16
            refine lv_iconst (v := 1) hx hb dX6_climb_127 (by decide) ?_
            refine lv_iadd hx hb dX6_climb_128 ?_
            refine lv_topi (fun x18 ex18 => ?_)
            have ix18 := iv_top x18
            refine th_put S hK hH hS ⟨2, by decide, t0⟩ inG6 tyX6 tyX6_ok nmX6 t0 kd_2 rfl 2 (by decide) gm_342 rfl rfl rfl rfl (th_iv ix18) (fun _ _ => trivial) (ty := .int) (by decide +kernel) rfl rfl dX6_climb_129 (fun H locs hH hS hq1 hp1 => ?_)
            have f19 := hp1.1
            refine lv_aload_n hx hb dX6_climb_132 rfl (lv_at hl 2 rfl) ?_
            refine lv_iload hx hb dX6_climb_133 (lv_at hl 0 rfl) ?_
            refine lv_iconst (v := 1) hx hb dX6_climb_135 (by decide) ?_
            refine lv_iadd hx hb dX6_climb_136 ?_
            refine lv_topi (fun x20 ex20 => ?_)
            have ix20 : IV x20 2 5 := by rw [ex20]; exact iv_add ir13 (iv_c (by decide) : IV 1 1 1) (by decide)
            refine lv_iload_n hx hb dX6_climb_137 rfl (lv_at hl 4 rfl) ?_
            refine th_callVi (n := 2) (As := [.int x20, .int y2]) S hK hH hS (th_A.sub (by decide)) (m_X6_climb_d7l2 l D cT T q hq a0 t0 (x20) ix20 (y2) j2) gm_762 gm_759 gm_761 gm_15 gm_115 (by decide +kernel) ⟨rfl, rfl, Nat.le_of_ble_eq_true rfl, Nat.le_of_ble_eq_true rfl⟩ t0 kd_2 rfl rfl hl.1 rfl (Nat.le_of_ble_eq_true rfl) dX6_climb_138 ⟨Nat.zero_le _, Nat.zero_le _⟩ (fun x21 H locs ix21 hH hS hF1 => ?_)
            refine lv_if_ne (tgt := 146) hx hb dX6_climb_141 (by decide) (fun c22 => ?_) (fun c22 => ?_)
            · skip
              have ir23 : IV x21 1 1 := iv_cutL ix21 (iv_c (by decide) : IV 0 0 0) c22 (by decide)
              refine lv_aload_n hx hb dX6_climb_146 rfl (lv_at hl 2 rfl) ?_
              refine th_get S hK hH inG6 t0 kd_2 rfl 1 (by decide) gm_340 rfl rfl dX6_climb_147 (fun v24 hv24 fv24 => ?_)
              obtain ⟨rf25, rfl, trf25⟩ := th_V.ref hv24
              refine th_get S hK hH inG4 trf25 kd_46 rfl 9 (by decide) gm_269 rfl rfl dX6_climb_150 (fun v26 hv26 fv26 => ?_)
              obtain ⟨rf27, rfl, trf27⟩ := th_V.ref hv26
              refine lv_iload hx hb dX6_climb_153 (lv_at hl 1 rfl) ?_
              refine lv_ineg hx hb dX6_climb_155 ?_
              refine lv_topi (fun x28 ex28 => ?_)
              have ix28 := iv_top x28
              refine th_callVv (n := 1) (As := [.int x28]) S hK hH hS (th_A.sub (by decide)) (m_X2_add l D cT T q hq rf27 trf27 (x28) ix28) gm_766 gm_763 gm_764 gm_765 gm_117 (by decide +kernel) ⟨rfl, rfl, Nat.le_of_ble_eq_true rfl, Nat.le_of_ble_eq_true rfl⟩ trf27 kd_56 rfl rfl hl.1 rfl (Nat.le_of_ble_eq_true rfl) dX6_climb_156 ⟨Nat.zero_le _, Nat.zero_le _⟩ (fun H locs hH hS hF1 => ?_)
              have f29 := fv24.kept (hF1 _ fv24.lt (th_off t0 (by decide)))
              have f30 := fv26.kept (hF1 _ fv26.lt (th_off trf25 (by decide)))
              refine lv_iload hx hb dX6_climb_159 (lv_at hl 0 rfl) ?_
              refine lv_iconst (v := 2) hx hb dX6_climb_161 (by decide) ?_
              refine lv_icmp_ne (tgt := 169) hx hb dX6_climb_162 (by decide) (fun c31 => ?_) (fun c31 => ?_)
              · skip
                refine lv_iload hx hb dX6_climb_169 (lv_at hl 0 rfl) ?_
                exact J171 H locs ls x11 ir13 ir8 ir14 hH hS (lv_sub hl [2, 3, 4, 6] rfl)
              · skip
                have ir32 : IV x11 2 2 := iv_eL c31 (iv_c (by decide) : IV 2 2 2)
                refine lv_iconst (v := 1) hx hb dX6_climb_165 (by decide) ?_
                refine lv_goto (tgt := 171) hx hb dX6_climb_166 (by decide) ?_
                exact J171_s0_1 H locs ls ir8 ir14 hH hS (lv_sub hl [2, 3, 4, 6] rfl)
            · skip
              have ir33 : IV x21 0 0 := iv_eL c22 (iv_c (by decide) : IV 0 0 0)
              refine lv_iconst (v := 0) hx hb dX6_climb_144 (by decide) ?_
              exact th_zret S hK hH hS hr hlocks (iv_w (iv_c (by decide) : IV 0 0 0) (by decide)) (th_R.i (iv_w (iv_c (by decide) : IV 0 0 0) (by decide))) dX6_climb_145
          · skip
            have ir34 : IV v83_3 1 3 := iv_uL iv83_3 ir13 (iv_nle c15) (by decide)
            have ir35 : IV x11 2 4 := iv_uR iv83_3 ir13 (iv_nle c15) (by decide)
            exact J120 H locs ls  hH hS (lv_sub hl [] rfl)
  have J80 : ∀ (H : Heap) (locs : List Loc) (ls : Array Slot) (v80_3 : Int32), IV v80_3 4 4 → th_H D cT T (kd q) H → va_S (th_A T [2, 56, 57]) s.heap H locs → lv_has ls 7 [(0, .ref a0), (1, .int y1), (2, .int y2), (3, .int v80_3)] → W p l e (rmk 6 149) s m [.ref a0, .int y1, .int y2].toArray below meth c H locs 0 0 (MQ below (th_Q D cT T (kd q) (th_R T (some (.inl (0, 1)))) [2, 56, 57]) [.ref a0, .int y1, .int y2].toArray s 0 0 (th_A T [2, 56, 57])) (F0 m 80 ls []) := by
    intro H locs ls v80_3 iv80_3 hH hS hl
    refine lv_iconst (v := 0) hx hb dX6_climb_80 (by decide) ?_
    refine lv_istore (lv' := [(4, .int 0), (0, .ref a0), (1, .int y1), (2, .int y2), (3, .int v80_3)]) hx hb dX6_climb_81 hl (by decide) rfl (fun ls hl => ?_)
    exact J83 ((1601 + 1 - Int32.toInt 0).toNat + 1) H locs ls v80_3 0 (iv_w iv80_3 (by decide)) (iv_w (iv_c (by decide) : IV 0 0 0) (by decide)) hH hS (lv_sub hl [1, 2, 3, 4, 0] rfl) (Nat.lt_succ_self _)
  have J70 : ∀ (H : Heap) (locs : List Loc) (ls : Array Slot) (v70_3 : Int32), IV v70_3 4 4 → th_H D cT T (kd q) H → va_S (th_A T [2, 56, 57]) s.heap H locs → lv_has ls 7 [(0, .ref a0), (1, .int y1), (2, .int y2), (3, .int v70_3)] → W p l e (rmk 6 149) s m [.ref a0, .int y1, .int y2].toArray below meth c H locs 0 0 (MQ below (th_Q D cT T (kd q) (th_R T (some (.inl (0, 1)))) [2, 56, 57]) [.ref a0, .int y1, .int y2].toArray s 0 0 (th_A T [2, 56, 57])) (F0 m 70 ls []) := by
    intro H locs ls v70_3 iv70_3 hH hS hl
    refine lv_aload_n hx hb dX6_climb_70 rfl (lv_at hl 0 rfl) ?_
    refine lv_iload_n hx hb dX6_climb_71 rfl (lv_at hl 2 rfl) ?_
    refine th_callVi (n := 1) (As := [.int y2]) S hK hH hS (th_A.sub (by decide)) (m_X6_unit_d7 l D cT T q hq a0 t0 (y2) j2) gm_770 gm_767 gm_769 gm_16 gm_115 (by decide +kernel) ⟨rfl, rfl, Nat.le_of_ble_eq_true rfl, Nat.le_of_ble_eq_true rfl⟩ t0 kd_2 rfl rfl hl.1 rfl (Nat.le_of_ble_eq_true rfl) dX6_climb_72 ⟨Nat.zero_le _, Nat.zero_le _⟩ (fun x36 H locs ix36 hH hS hF1 => ?_)
    refine lv_if_ne (tgt := 80) hx hb dX6_climb_75 (by decide) (fun c37 => ?_) (fun c37 => ?_)
    · skip
      have ir38 : IV x36 1 1 := iv_cutL ix36 (iv_c (by decide) : IV 0 0 0) c37 (by decide)
      exact J80 H locs ls v70_3 iv70_3 hH hS (lv_sub hl [0, 1, 2, 3] rfl)
    · skip
      have ir39 : IV x36 0 0 := iv_eL c37 (iv_c (by decide) : IV 0 0 0)
      refine lv_iconst (v := 0) hx hb dX6_climb_78 (by decide) ?_
      exact th_zret S hK hH hS hr hlocks (iv_w (iv_c (by decide) : IV 0 0 0) (by decide)) (th_R.i (iv_w (iv_c (by decide) : IV 0 0 0) (by decide))) dX6_climb_79
  have J0 : ∀ (H : Heap) (locs : List Loc) (ls : Array Slot), th_H D cT T (kd q) H → va_S (th_A T [2, 56, 57]) s.heap H locs → lv_has ls 7 [(0, .ref a0), (1, .int y1), (2, .int y2)] → W p l e (rmk 6 149) s m [.ref a0, .int y1, .int y2].toArray below meth c H locs 0 0 (MQ below (th_Q D cT T (kd q) (th_R T (some (.inl (0, 1)))) [2, 56, 57]) [.ref a0, .int y1, .int y2].toArray s 0 0 (th_A T [2, 56, 57])) (F0 m 0 ls []) := by
    intro H locs ls hH hS hl
    refine lv_iconst (v := 4) hx hb dX6_climb_0 (by decide) ?_
    refine lv_istore_n (lv' := [(3, .int 4), (0, .ref a0), (1, .int y1), (2, .int y2)]) hx hb dX6_climb_1 rfl hl (by decide) rfl (fun ls hl => ?_)
    refine lv_aload_n hx hb dX6_climb_2 rfl (lv_at hl 1 rfl) ?_
    refine th_callVi (n := 0) (As := []) S hK hH hS (th_A.sub (by decide)) (m_X6_kind l D cT T q hq a0 t0) gm_708 gm_705 gm_707 gm_5 gm_115 (by decide +kernel) ⟨rfl, rfl, Nat.le_of_ble_eq_true rfl, Nat.le_of_ble_eq_true rfl⟩ t0 kd_2 rfl rfl hl.1 rfl (Nat.le_of_ble_eq_true rfl) dX6_climb_3 ⟨Nat.zero_le _, Nat.zero_le _⟩ (fun x40 H locs ix40 hH hS hF1 => ?_)
    refine lv_sipush (v := 149) hx hb dX6_climb_6 (by decide) ?_
    refine lv_icmp_ne (tgt := 70) hx hb dX6_climb_9 (by decide) (fun c41 => ?_) (fun c41 => ?_)
    · skip
      exact J70 H locs ls 4 (iv_c (by decide) : IV 4 4 4) hH hS (lv_sub hl [1, 2, 3, 0] rfl)
    · skip
      have ir42 : IV x40 149 149 := iv_eL c41 (iv_c (by decide) : IV 149 149 149)
      refine lv_iload_n hx hb dX6_climb_12 rfl (lv_at hl 2 rfl) ?_
      refine lv_iconst (v := 2) hx hb dX6_climb_13 (by decide) ?_
      refine lv_icmp_gt (tgt := 70) hx hb dX6_climb_14 (by decide) (fun c43 => ?_) (fun c43 => ?_)
      · skip
        have ir44 : IV y1 3 5 := iv_uR (iv_c (by decide) : IV 2 2 2) j1 (iv_lt c43) (by decide)
        exact J70 H locs ls 4 (iv_c (by decide) : IV 4 4 4) hH hS (lv_sub hl [1, 2, 3, 0] rfl)
      · skip
        have ir45 : IV y1 1 2 := iv_vL j1 (iv_c (by decide) : IV 2 2 2) (iv_nlt c43) (by decide)
        refine lv_iload_n hx hb dX6_climb_17 rfl (lv_at hl 3 rfl) ?_
        refine lv_bipush (v := 7) hx hb dX6_climb_18 (by decide) ?_
        refine lv_icmp_lt (tgt := 29) hx hb dX6_climb_20 (by decide) (fun c46 => ?_) (fun c46 => ?_)
        · skip
          exfalso
          have z1 := iv_lt c46
          have z2 := (j2).1
          have z3 := (j2).2
          have z4 := ((iv_c (by decide) : IV 7 7 7)).1
          have z5 := ((iv_c (by decide) : IV 7 7 7)).2
          omega
        · skip
          refine lv_aload_n hx hb dX6_climb_23 rfl (lv_at hl 1 rfl) ?_
          refine lv_iconst (v := 2) hx hb dX6_climb_24 (by decide) ?_
          refine th_callVi (n := 1) (As := [.int 2]) S hK hH hS (th_A.sub (by decide)) (m_X6_blame l D cT T q hq a0 t0 (2) (iv_top _)) gm_722 gm_719 gm_721 gm_6 gm_115 (by decide +kernel) ⟨rfl, rfl, Nat.le_of_ble_eq_true rfl, Nat.le_of_ble_eq_true rfl⟩ t0 kd_2 rfl rfl hl.1 rfl (Nat.le_of_ble_eq_true rfl) dX6_climb_25 ⟨Nat.zero_le _, Nat.zero_le _⟩ (fun x47 H locs ix47 hH hS hF1 => ?_)
          exact th_zret S hK hH hS hr hlocks (iv_w ix47 (by decide)) (th_R.i (iv_w ix47 (by decide))) dX6_climb_28
  exact J0 s.heap [] ls hH va_S.rf hl

set_option maxRecDepth 100000 in
theorem m_X6_climb_d7l0 (l : Launch) (D : va_G) (cT : Nat → ClassId) (T : Nat → Option Nat) (q : Nat → Int) (hq : qok q) (a0 : Nat) (t0 : T a0 = some 2) (y1 : Int32) (j1 : IV y1 0 5) (y2 : Int32) (j2 : IV y2 7 7) : th_Met l D cT T (kd q) yX6_climb cX6_climb 7 (some .boolean) (rmk 7 175) [.ref a0, .int y1, .int y2] (th_R T (some (.inl (0, 1)))) [2, 56, 57] := by
  refine th_start (by decide) (Nat.le_of_ble_eq_true rfl) ?_
  intro p e s m below meth c ls S hK hH hr hlocks hnm hl
  have hx := S.1
  have hb := S.2.1
  have hl : lv_has ls 7 [(0, .ref a0), (1, .int y1), (2, .int y2)] := hl
  have J83 : ∀ (n : Nat) (H : Heap) (locs : List Loc) (ls : Array Slot) (v83_3 : Int32) (v83_4 : Int32), IV v83_3 0 4 → IV v83_4 0 1601 → th_H D cT T (kd q) H → va_S (th_A T [2, 56, 57]) s.heap H locs → lv_has ls 7 [(0, .ref a0), (1, .int y1), (2, .int y2), (3, .int v83_3), (4, .int v83_4)] → (1601 + 1 - v83_4.toInt).toNat < n → W p l e (rmk 7 175) s m [.ref a0, .int y1, .int y2].toArray below meth c H locs 0 0 (MQ below (th_Q D cT T (kd q) (th_R T (some (.inl (0, 1)))) [2, 56, 57]) [.ref a0, .int y1, .int y2].toArray s 0 0 (th_A T [2, 56, 57])) (F0 m 83 ls []) := by
    intro n
    induction n with
    | zero => intro H locs ls v83_3 v83_4 iv83_3 iv83_4 hH hS hl hn; exact absurd hn (Nat.not_lt_zero _)
    | succ n ih83 =>
      intro H locs ls v83_3 v83_4 iv83_3 iv83_4 hH hS hl hn83
      have J171 : ∀ (H : Heap) (locs : List Loc) (ls : Array Slot) (w171_0 : Int32), IV w171_0 0 4 → IV v83_4 0 1600 → IV y1 0 4 → th_H D cT T (kd q) H → va_S (th_A T [2, 56, 57]) s.heap H locs → lv_has ls 7 [(0, .ref a0), (1, .int y1), (2, .int y2), (4, .int v83_4)] → W p l e (rmk 7 175) s m [.ref a0, .int y1, .int y2].toArray below meth c H locs 0 0 (MQ below (th_Q D cT T (kd q) (th_R T (some (.inl (0, 1)))) [2, 56, 57]) [.ref a0, .int y1, .int y2].toArray s 0 0 (th_A T [2, 56, 57])) (F0 m 171 ls [.int w171_0]) := by
        intro H locs ls w171_0 iw171_0 f171_v83_4 f171_y1 hH hS hl
        refine lv_istore_n (lv' := [(3, .int w171_0), (0, .ref a0), (1, .int y1), (2, .int y2), (4, .int v83_4)]) hx hb dX6_climb_171 rfl hl (by decide) rfl (fun ls hl => ?_)
        refine th_iinc S dX6_climb_172 hl (k := 4) rfl (by decide) f171_v83_4 (by decide) (fun x1 ls ex1 ix1 hl => ?_)
        have hl : lv_has ls 7 [(4, .int x1), (3, .int w171_0), (0, .ref a0), (1, .int y1), (2, .int y2)] := hl
        have ix1 : IV x1 1 1601 := ix1
        refine lv_goto (tgt := 83) hx hb dX6_climb_175 (by decide) ?_
        exact ih83 H locs ls w171_0 x1 iw171_0 (iv_w ix1 (by decide)) hH hS (lv_sub hl [2, 3, 4, 1, 0] rfl) (th_up iv83_4 ex1 (by decide) hn83)
      have J171_s0_1 : ∀ (H : Heap) (locs : List Loc) (ls : Array Slot), IV v83_4 0 1600 → IV y1 0 4 → th_H D cT T (kd q) H → va_S (th_A T [2, 56, 57]) s.heap H locs → lv_has ls 7 [(0, .ref a0), (1, .int y1), (2, .int y2), (4, .int v83_4)] → W p l e (rmk 7 175) s m [.ref a0, .int y1, .int y2].toArray below meth c H locs 0 0 (MQ below (th_Q D cT T (kd q) (th_R T (some (.inl (0, 1)))) [2, 56, 57]) [.ref a0, .int y1, .int y2].toArray s 0 0 (th_A T [2, 56, 57])) (F0 m 171 ls [.int 1]) := by
        intro H locs ls f171_v83_4 f171_y1 hH hS hl
        refine lv_istore_n (lv' := [(3, .int 1), (0, .ref a0), (1, .int y1), (2, .int y2), (4, .int v83_4)]) hx hb dX6_climb_171 rfl hl (by decide) rfl (fun ls hl => ?_)
        refine th_iinc S dX6_climb_172 hl (k := 4) rfl (by decide) f171_v83_4 (by decide) (fun x2 ls ex2 ix2 hl => ?_)
        have hl : lv_has ls 7 [(4, .int x2), (3, .int 1), (0, .ref a0), (1, .int y1), (2, .int y2)] := hl
        have ix2 : IV x2 1 1601 := ix2
        refine lv_goto (tgt := 83) hx hb dX6_climb_175 (by decide) ?_
        exact ih83 H locs ls 1 x2 (iv_w (iv_c (by decide) : IV 1 1 1) (by decide)) (iv_w ix2 (by decide)) hH hS (lv_sub hl [2, 3, 4, 1, 0] rfl) (th_up iv83_4 ex2 (by decide) hn83)
      have J120 : ∀ (H : Heap) (locs : List Loc) (ls : Array Slot), th_H D cT T (kd q) H → va_S (th_A T [2, 56, 57]) s.heap H locs → lv_has ls 7 [] → W p l e (rmk 7 175) s m [.ref a0, .int y1, .int y2].toArray below meth c H locs 0 0 (MQ below (th_Q D cT T (kd q) (th_R T (some (.inl (0, 1)))) [2, 56, 57]) [.ref a0, .int y1, .int y2].toArray s 0 0 (th_A T [2, 56, 57])) (F0 m 120 ls []) := by
        intro H locs ls hH hS hl
        refine lv_iconst (v := 1) hx hb dX6_climb_120 (by decide) ?_
        exact th_zret S hK hH hS hr hlocks (iv_w (iv_c (by decide) : IV 1 1 1) (by decide)) (th_R.i (iv_w (iv_c (by decide) : IV 1 1 1) (by decide))) dX6_climb_121
      refine lv_iload hx hb dX6_climb_83 (lv_at hl 4 rfl) ?_
      refine lv_aload_n hx hb dX6_climb_85 rfl (lv_at hl 0 rfl) ?_
      refine th_get S hK hH inG6 t0 kd_2 rfl 0 (by decide) gm_339 rfl rfl dX6_climb_86 (fun v3 hv3 fv3 => ?_)
      obtain ⟨rf4, rfl, trf4⟩ := th_V.ref hv3
      refine th_get S hK hH inG8 trf4 kd_1 rfl 5 (by decide) gm_159 rfl rfl dX6_climb_89 (fun v5 hv5 fv5 => ?_)
      obtain ⟨x6, rfl, ix6⟩ := th_V.int hv5
      refine lv_icmp_ge (tgt := 178) hx hb dX6_climb_92 (by decide) (fun c7 => ?_) (fun c7 => ?_)
      · skip
        refine lv_iconst (v := 1) hx hb dX6_climb_178 (by decide) ?_
        exact th_zret S hK hH hS hr hlocks (iv_w (iv_c (by decide) : IV 1 1 1) (by decide)) (th_R.i (iv_w (iv_c (by decide) : IV 1 1 1) (by decide))) dX6_climb_179
      · skip
        have ir8 : IV v83_4 0 1600 := iv_uL iv83_4 ix6 (iv_nle c7) (by decide)
        have ir9 : IV x6 1 1601 := iv_uR iv83_4 ix6 (iv_nle c7) (by decide)
        refine lv_aload_n hx hb dX6_climb_95 rfl (lv_at hl 0 rfl) ?_
        refine th_callVi (n := 0) (As := []) S hK hH hS (th_A.sub (by decide)) (m_X6_kind l D cT T q hq a0 t0) gm_708 gm_705 gm_707 gm_5 gm_115 (by decide +kernel) ⟨rfl, rfl, Nat.le_of_ble_eq_true rfl, Nat.le_of_ble_eq_true rfl⟩ t0 kd_2 rfl rfl hl.1 rfl (Nat.le_of_ble_eq_true rfl) dX6_climb_96 ⟨Nat.zero_le _, Nat.zero_le _⟩ (fun x10 H locs ix10 hH hS hF1 => ?_)
        refine lv_istore (lv' := [(5, .int x10), (0, .ref a0), (1, .int y1), (2, .int y2), (3, .int v83_3), (4, .int v83_4)]) hx hb dX6_climb_99 hl (by decide) rfl (fun ls hl => ?_)
        refine lv_iload hx hb dX6_climb_101 (lv_at hl 0 rfl) ?_
        refine th_callSi (n := 1) (As := [.int x10]) S hK hH hS (th_A.sub (by decide)) (m_X6_levelOf l D cT T q hq (x10) ix10) gm_773 gm_771 gm_772 gm_115 (by decide +kernel) ⟨rfl, rfl, Nat.le_of_ble_eq_true rfl, Nat.le_of_ble_eq_true rfl⟩ rfl hl.1 rfl (Nat.le_of_ble_eq_true rfl) dX6_climb_103 ⟨Nat.zero_le _, Nat.zero_le _⟩ (fun x11 H locs ix11 hH hS hF1 => ?_)
        refine lv_istore (lv' := [(6, .int x11), (5, .int x10), (0, .ref a0), (1, .int y1), (2, .int y2), (3, .int v83_3), (4, .int v83_4)]) hx hb dX6_climb_106 hl (by decide) rfl (fun ls hl => ?_)
        refine lv_iload hx hb dX6_climb_108 (lv_at hl 0 rfl) ?_
        refine lv_iload_n hx hb dX6_climb_110 rfl (lv_at hl 3 rfl) ?_
        refine lv_icmp_lt (tgt := 120) hx hb dX6_climb_111 (by decide) (fun c12 => ?_) (fun c12 => ?_)
        · skip
          exact J120 H locs ls  hH hS (lv_sub hl [] rfl)
        · skip
          have ir13 : IV x11 0 4 := iv_vR j1 ix11 (iv_nlt c12) (by decide)
          have ir14 : IV y1 0 4 := iv_vL j1 ix11 (iv_nlt c12) (by decide)
          refine lv_iload hx hb dX6_climb_114 (lv_at hl 0 rfl) ?_
          refine lv_iload_n hx hb dX6_climb_116 rfl (lv_at hl 5 rfl) ?_
          refine lv_icmp_le (tgt := 122) hx hb dX6_climb_117 (by decide) (fun c15 => ?_) (fun c15 => ?_)
          · skip
            refine lv_aload_n hx hb dX6_climb_122 rfl (lv_at hl 2 rfl) ?_
            refine lv_dup hx hb dX6_climb_123 rfl ?_
            refine th_get S hK hH inG6 t0 kd_2 rfl 2 (by decide) gm_342 rfl rfl dX6_climb_124 (fun v16 hv16 fv16 => ?_)
            obtain ⟨x17, rfl, ix17⟩ := th_V.int hv16
            refine lv_iconst (v := 1) hx hb dX6_climb_127 (by decide) ?_
            refine lv_iadd hx hb dX6_climb_128 ?_
            refine lv_topi (fun x18 ex18 => ?_)
            have ix18 := iv_top x18
            refine th_put S hK hH hS ⟨2, by decide, t0⟩ inG6 tyX6 tyX6_ok nmX6 t0 kd_2 rfl 2 (by decide) gm_342 rfl rfl rfl rfl (th_iv ix18) (fun _ _ => trivial) (ty := .int) (by decide +kernel) rfl rfl dX6_climb_129 (fun H locs hH hS hq1 hp1 => ?_)
            have f19 := hp1.1
            refine lv_aload_n hx hb dX6_climb_132 rfl (lv_at hl 2 rfl) ?_
            refine lv_iload hx hb dX6_climb_133 (lv_at hl 0 rfl) ?_
            refine lv_iconst (v := 1) hx hb dX6_climb_135 (by decide) ?_
            refine lv_iadd hx hb dX6_climb_136 ?_
            refine lv_topi (fun x20 ex20 => ?_)
            have ix20 : IV x20 1 5 := by rw [ex20]; exact iv_add ir13 (iv_c (by decide) : IV 1 1 1) (by decide)
            refine lv_iload_n hx hb dX6_climb_137 rfl (lv_at hl 4 rfl) ?_
            refine th_callVi (n := 2) (As := [.int x20, .int y2]) S hK hH hS (th_A.sub (by decide)) (m_X6_climb_d7l1 l D cT T q hq a0 t0 (x20) ix20 (y2) j2) gm_762 gm_759 gm_761 gm_15 gm_115 (by decide +kernel) ⟨rfl, rfl, Nat.le_of_ble_eq_true rfl, Nat.le_of_ble_eq_true rfl⟩ t0 kd_2 rfl rfl hl.1 rfl (Nat.le_of_ble_eq_true rfl) dX6_climb_138 ⟨Nat.zero_le _, Nat.zero_le _⟩ (fun x21 H locs ix21 hH hS hF1 => ?_)
            refine lv_if_ne (tgt := 146) hx hb dX6_climb_141 (by decide) (fun c22 => ?_) (fun c22 => ?_)
            · skip
              have ir23 : IV x21 1 1 := iv_cutL ix21 (iv_c (by decide) : IV 0 0 0) c22 (by decide)
              refine lv_aload_n hx hb dX6_climb_146 rfl (lv_at hl 2 rfl) ?_
              refine th_get S hK hH inG6 t0 kd_2 rfl 1 (by decide) gm_340 rfl rfl dX6_climb_147 (fun v24 hv24 fv24 => ?_)
              obtain ⟨rf25, rfl, trf25⟩ := th_V.ref hv24
              refine th_get S hK hH inG4 trf25 kd_46 rfl 9 (by decide) gm_269 rfl rfl dX6_climb_150 (fun v26 hv26 fv26 => ?_)
              obtain ⟨rf27, rfl, trf27⟩ := th_V.ref hv26
              refine lv_iload hx hb dX6_climb_153 (lv_at hl 1 rfl) ?_
              refine lv_ineg hx hb dX6_climb_155 ?_
              refine lv_topi (fun x28 ex28 => ?_)
              have ix28 := iv_top x28
              refine th_callVv (n := 1) (As := [.int x28]) S hK hH hS (th_A.sub (by decide)) (m_X2_add l D cT T q hq rf27 trf27 (x28) ix28) gm_766 gm_763 gm_764 gm_765 gm_117 (by decide +kernel) ⟨rfl, rfl, Nat.le_of_ble_eq_true rfl, Nat.le_of_ble_eq_true rfl⟩ trf27 kd_56 rfl rfl hl.1 rfl (Nat.le_of_ble_eq_true rfl) dX6_climb_156 ⟨Nat.zero_le _, Nat.zero_le _⟩ (fun H locs hH hS hF1 => ?_)
              have f29 := fv24.kept (hF1 _ fv24.lt (th_off t0 (by decide)))
              have f30 := fv26.kept (hF1 _ fv26.lt (th_off trf25 (by decide)))
              refine lv_iload hx hb dX6_climb_159 (lv_at hl 0 rfl) ?_
              refine lv_iconst (v := 2) hx hb dX6_climb_161 (by decide) ?_
              refine lv_icmp_ne (tgt := 169) hx hb dX6_climb_162 (by decide) (fun c31 => ?_) (fun c31 => ?_)
              · skip
                refine lv_iload hx hb dX6_climb_169 (lv_at hl 0 rfl) ?_
                exact J171 H locs ls x11 ir13 ir8 ir14 hH hS (lv_sub hl [2, 3, 4, 6] rfl)
              · skip
                have ir32 : IV x11 2 2 := iv_eL c31 (iv_c (by decide) : IV 2 2 2)
                refine lv_iconst (v := 1) hx hb dX6_climb_165 (by decide) ?_
                refine lv_goto (tgt := 171) hx hb dX6_climb_166 (by decide) ?_
                exact J171_s0_1 H locs ls ir8 ir14 hH hS (lv_sub hl [2, 3, 4, 6] rfl)
            · skip
              have ir33 : IV x21 0 0 := iv_eL c22 (iv_c (by decide) : IV 0 0 0)
              refine lv_iconst (v := 0) hx hb dX6_climb_144 (by decide) ?_
              exact th_zret S hK hH hS hr hlocks (iv_w (iv_c (by decide) : IV 0 0 0) (by decide)) (th_R.i (iv_w (iv_c (by decide) : IV 0 0 0) (by decide))) dX6_climb_145
          · skip
            have ir34 : IV v83_3 0 3 := iv_uL iv83_3 ir13 (iv_nle c15) (by decide)
            have ir35 : IV x11 1 4 := iv_uR iv83_3 ir13 (iv_nle c15) (by decide)
            exact J120 H locs ls  hH hS (lv_sub hl [] rfl)
  have J80 : ∀ (H : Heap) (locs : List Loc) (ls : Array Slot) (v80_3 : Int32), IV v80_3 4 4 → th_H D cT T (kd q) H → va_S (th_A T [2, 56, 57]) s.heap H locs → lv_has ls 7 [(0, .ref a0), (1, .int y1), (2, .int y2), (3, .int v80_3)] → W p l e (rmk 7 175) s m [.ref a0, .int y1, .int y2].toArray below meth c H locs 0 0 (MQ below (th_Q D cT T (kd q) (th_R T (some (.inl (0, 1)))) [2, 56, 57]) [.ref a0, .int y1, .int y2].toArray s 0 0 (th_A T [2, 56, 57])) (F0 m 80 ls []) := by
    intro H locs ls v80_3 iv80_3 hH hS hl
    refine lv_iconst (v := 0) hx hb dX6_climb_80 (by decide) ?_
    refine lv_istore (lv' := [(4, .int 0), (0, .ref a0), (1, .int y1), (2, .int y2), (3, .int v80_3)]) hx hb dX6_climb_81 hl (by decide) rfl (fun ls hl => ?_)
    exact J83 ((1601 + 1 - Int32.toInt 0).toNat + 1) H locs ls v80_3 0 (iv_w iv80_3 (by decide)) (iv_w (iv_c (by decide) : IV 0 0 0) (by decide)) hH hS (lv_sub hl [1, 2, 3, 4, 0] rfl) (Nat.lt_succ_self _)
  have J70 : ∀ (H : Heap) (locs : List Loc) (ls : Array Slot) (v70_3 : Int32), IV v70_3 4 4 → th_H D cT T (kd q) H → va_S (th_A T [2, 56, 57]) s.heap H locs → lv_has ls 7 [(0, .ref a0), (1, .int y1), (2, .int y2), (3, .int v70_3)] → W p l e (rmk 7 175) s m [.ref a0, .int y1, .int y2].toArray below meth c H locs 0 0 (MQ below (th_Q D cT T (kd q) (th_R T (some (.inl (0, 1)))) [2, 56, 57]) [.ref a0, .int y1, .int y2].toArray s 0 0 (th_A T [2, 56, 57])) (F0 m 70 ls []) := by
    intro H locs ls v70_3 iv70_3 hH hS hl
    refine lv_aload_n hx hb dX6_climb_70 rfl (lv_at hl 0 rfl) ?_
    refine lv_iload_n hx hb dX6_climb_71 rfl (lv_at hl 2 rfl) ?_
    refine th_callVi (n := 1) (As := [.int y2]) S hK hH hS (th_A.sub (by decide)) (m_X6_unit_d7 l D cT T q hq a0 t0 (y2) j2) gm_770 gm_767 gm_769 gm_16 gm_115 (by decide +kernel) ⟨rfl, rfl, Nat.le_of_ble_eq_true rfl, Nat.le_of_ble_eq_true rfl⟩ t0 kd_2 rfl rfl hl.1 rfl (Nat.le_of_ble_eq_true rfl) dX6_climb_72 ⟨Nat.zero_le _, Nat.zero_le _⟩ (fun x36 H locs ix36 hH hS hF1 => ?_)
    refine lv_if_ne (tgt := 80) hx hb dX6_climb_75 (by decide) (fun c37 => ?_) (fun c37 => ?_)
    · skip
      have ir38 : IV x36 1 1 := iv_cutL ix36 (iv_c (by decide) : IV 0 0 0) c37 (by decide)
      exact J80 H locs ls v70_3 iv70_3 hH hS (lv_sub hl [0, 1, 2, 3] rfl)
    · skip
      have ir39 : IV x36 0 0 := iv_eL c37 (iv_c (by decide) : IV 0 0 0)
      refine lv_iconst (v := 0) hx hb dX6_climb_78 (by decide) ?_
      exact th_zret S hK hH hS hr hlocks (iv_w (iv_c (by decide) : IV 0 0 0) (by decide)) (th_R.i (iv_w (iv_c (by decide) : IV 0 0 0) (by decide))) dX6_climb_79
  have J0 : ∀ (H : Heap) (locs : List Loc) (ls : Array Slot), th_H D cT T (kd q) H → va_S (th_A T [2, 56, 57]) s.heap H locs → lv_has ls 7 [(0, .ref a0), (1, .int y1), (2, .int y2)] → W p l e (rmk 7 175) s m [.ref a0, .int y1, .int y2].toArray below meth c H locs 0 0 (MQ below (th_Q D cT T (kd q) (th_R T (some (.inl (0, 1)))) [2, 56, 57]) [.ref a0, .int y1, .int y2].toArray s 0 0 (th_A T [2, 56, 57])) (F0 m 0 ls []) := by
    intro H locs ls hH hS hl
    refine lv_iconst (v := 4) hx hb dX6_climb_0 (by decide) ?_
    refine lv_istore_n (lv' := [(3, .int 4), (0, .ref a0), (1, .int y1), (2, .int y2)]) hx hb dX6_climb_1 rfl hl (by decide) rfl (fun ls hl => ?_)
    refine lv_aload_n hx hb dX6_climb_2 rfl (lv_at hl 1 rfl) ?_
    refine th_callVi (n := 0) (As := []) S hK hH hS (th_A.sub (by decide)) (m_X6_kind l D cT T q hq a0 t0) gm_708 gm_705 gm_707 gm_5 gm_115 (by decide +kernel) ⟨rfl, rfl, Nat.le_of_ble_eq_true rfl, Nat.le_of_ble_eq_true rfl⟩ t0 kd_2 rfl rfl hl.1 rfl (Nat.le_of_ble_eq_true rfl) dX6_climb_3 ⟨Nat.zero_le _, Nat.zero_le _⟩ (fun x40 H locs ix40 hH hS hF1 => ?_)
    refine lv_sipush (v := 149) hx hb dX6_climb_6 (by decide) ?_
    refine lv_icmp_ne (tgt := 70) hx hb dX6_climb_9 (by decide) (fun c41 => ?_) (fun c41 => ?_)
    · skip
      exact J70 H locs ls 4 (iv_c (by decide) : IV 4 4 4) hH hS (lv_sub hl [1, 2, 3, 0] rfl)
    · skip
      have ir42 : IV x40 149 149 := iv_eL c41 (iv_c (by decide) : IV 149 149 149)
      refine lv_iload_n hx hb dX6_climb_12 rfl (lv_at hl 2 rfl) ?_
      refine lv_iconst (v := 2) hx hb dX6_climb_13 (by decide) ?_
      refine lv_icmp_gt (tgt := 70) hx hb dX6_climb_14 (by decide) (fun c43 => ?_) (fun c43 => ?_)
      · skip
        have ir44 : IV y1 3 5 := iv_uR (iv_c (by decide) : IV 2 2 2) j1 (iv_lt c43) (by decide)
        exact J70 H locs ls 4 (iv_c (by decide) : IV 4 4 4) hH hS (lv_sub hl [1, 2, 3, 0] rfl)
      · skip
        have ir45 : IV y1 0 2 := iv_vL j1 (iv_c (by decide) : IV 2 2 2) (iv_nlt c43) (by decide)
        refine lv_iload_n hx hb dX6_climb_17 rfl (lv_at hl 3 rfl) ?_
        refine lv_bipush (v := 7) hx hb dX6_climb_18 (by decide) ?_
        refine lv_icmp_lt (tgt := 29) hx hb dX6_climb_20 (by decide) (fun c46 => ?_) (fun c46 => ?_)
        · skip
          exfalso
          have z1 := iv_lt c46
          have z2 := (j2).1
          have z3 := (j2).2
          have z4 := ((iv_c (by decide) : IV 7 7 7)).1
          have z5 := ((iv_c (by decide) : IV 7 7 7)).2
          omega
        · skip
          refine lv_aload_n hx hb dX6_climb_23 rfl (lv_at hl 1 rfl) ?_
          refine lv_iconst (v := 2) hx hb dX6_climb_24 (by decide) ?_
          refine th_callVi (n := 1) (As := [.int 2]) S hK hH hS (th_A.sub (by decide)) (m_X6_blame l D cT T q hq a0 t0 (2) (iv_top _)) gm_722 gm_719 gm_721 gm_6 gm_115 (by decide +kernel) ⟨rfl, rfl, Nat.le_of_ble_eq_true rfl, Nat.le_of_ble_eq_true rfl⟩ t0 kd_2 rfl rfl hl.1 rfl (Nat.le_of_ble_eq_true rfl) dX6_climb_25 ⟨Nat.zero_le _, Nat.zero_le _⟩ (fun x47 H locs ix47 hH hS hF1 => ?_)
          exact th_zret S hK hH hS hr hlocks (iv_w ix47 (by decide)) (th_R.i (iv_w ix47 (by decide))) dX6_climb_28
  exact J0 s.heap [] ls hH va_S.rf hl

set_option maxRecDepth 100000 in
theorem m_X6_unit_d6 (l : Launch) (D : va_G) (cT : Nat → ClassId) (T : Nat → Option Nat) (q : Nat → Int) (hq : qok q) (a0 : Nat) (t0 : T a0 = some 2) (y1 : Int32) (j1 : IV y1 6 6) : th_Met l D cT T (kd q) yX6_unit cX6_unit 4 (some .boolean) (rmk 8 201) [.ref a0, .int y1] (th_R T (some (.inl (0, 1)))) [2, 56, 57] := by
  refine th_start (by decide) (Nat.le_of_ble_eq_true rfl) ?_
  intro p e s m below meth c ls S hK hH hr hlocks hnm hl
  have hx := S.1
  have hb := S.2.1
  have hl : lv_has ls 4 [(0, .ref a0), (1, .int y1)] := hl
  have J183 : ∀ (H : Heap) (locs : List Loc) (ls : Array Slot) (w183_0 : Nat) (w183_1 : Int32) (u183_a0_3 : Int32), T w183_0 = some 56 → IV w183_1 (-2147483648) 2147483647 → IV u183_a0_3 (-2147483647) 30 → th_fa D H a0 6 3 (.int u183_a0_3) → th_H D cT T (kd q) H → va_S (th_A T [2, 56, 57]) s.heap H locs → lv_has ls 4 [(0, .ref a0)] → W p l e (rmk 8 201) s m [.ref a0, .int y1].toArray below meth c H locs 0 0 (MQ below (th_Q D cT T (kd q) (th_R T (some (.inl (0, 1)))) [2, 56, 57]) [.ref a0, .int y1].toArray s 0 0 (th_A T [2, 56, 57])) (F0 m 183 ls [.int w183_1, .ref w183_0]) := by
    intro H locs ls w183_0 w183_1 u183_a0_3 tw183_0 iw183_1 iu183_a0_3 gu183_a0_3 hH hS hl
    refine th_callVv (n := 1) (As := [.int w183_1]) S hK hH hS (th_A.sub (by decide)) (m_X2_add l D cT T q hq w183_0 tw183_0 (w183_1) iw183_1) gm_766 gm_763 gm_764 gm_765 gm_117 (by decide +kernel) ⟨rfl, rfl, Nat.le_of_ble_eq_true rfl, Nat.le_of_ble_eq_true rfl⟩ tw183_0 kd_56 rfl rfl hl.1 rfl (Nat.le_of_ble_eq_true rfl) dX6_unit_183 ⟨Nat.zero_le _, Nat.zero_le _⟩ (fun H locs hH hS hF1 => ?_)
    have f1 := gu183_a0_3.kept (hF1 _ gu183_a0_3.lt (th_off t0 (by decide)))
    refine lv_aload_n hx hb dX6_unit_186 rfl (lv_at hl 0 rfl) ?_
    refine lv_dup hx hb dX6_unit_187 rfl ?_
    refine th_get S hK hH inG6 t0 kd_2 rfl 2 (by decide) gm_342 rfl rfl dX6_unit_188 (fun v2 hv2 fv2 => ?_)
    obtain ⟨x3, rfl, ix3⟩ := th_V.int hv2
    refine lv_iconst (v := 1) hx hb dX6_unit_191 (by decide) ?_
    refine lv_iadd hx hb dX6_unit_192 ?_
    refine lv_topi (fun x4 ex4 => ?_)
    have ix4 := iv_top x4
    refine th_put S hK hH hS ⟨2, by decide, t0⟩ inG6 tyX6 tyX6_ok nmX6 t0 kd_2 rfl 2 (by decide) gm_342 rfl rfl rfl rfl (th_iv ix4) (fun _ _ => trivial) (ty := .int) (by decide +kernel) rfl rfl dX6_unit_193 (fun H locs hH hS hq1 hp1 => ?_)
    have f5 := hp1.2 3 _ (by decide) (by decide) f1
    have f6 := hp1.1
    refine lv_iconst (v := 1) hx hb dX6_unit_196 (by decide) ?_
    exact th_zret S hK hH hS hr hlocks (iv_w (iv_c (by decide) : IV 1 1 1) (by decide)) (th_R.i (iv_w (iv_c (by decide) : IV 1 1 1) (by decide))) dX6_unit_197
  have J161_s0_0 : ∀ (H : Heap) (locs : List Loc) (ls : Array Slot), th_H D cT T (kd q) H → va_S (th_A T [2, 56, 57]) s.heap H locs → lv_has ls 4 [] → W p l e (rmk 8 201) s m [.ref a0, .int y1].toArray below meth c H locs 0 0 (MQ below (th_Q D cT T (kd q) (th_R T (some (.inl (0, 1)))) [2, 56, 57]) [.ref a0, .int y1].toArray s 0 0 (th_A T [2, 56, 57])) (F0 m 161 ls [.int 0]) := by
    intro H locs ls hH hS hl
    exact th_zret S hK hH hS hr hlocks (iv_w (iv_c (by decide) : IV 0 0 0) (by decide)) (th_R.i (iv_w (iv_c (by decide) : IV 0 0 0) (by decide))) dX6_unit_161
  have J161_s0_1 : ∀ (H : Heap) (locs : List Loc) (ls : Array Slot), th_H D cT T (kd q) H → va_S (th_A T [2, 56, 57]) s.heap H locs → lv_has ls 4 [] → W p l e (rmk 8 201) s m [.ref a0, .int y1].toArray below meth c H locs 0 0 (MQ below (th_Q D cT T (kd q) (th_R T (some (.inl (0, 1)))) [2, 56, 57]) [.ref a0, .int y1].toArray s 0 0 (th_A T [2, 56, 57])) (F0 m 161 ls [.int 1]) := by
    intro H locs ls hH hS hl
    exact th_zret S hK hH hS hr hlocks (iv_w (iv_c (by decide) : IV 1 1 1) (by decide)) (th_R.i (iv_w (iv_c (by decide) : IV 1 1 1) (by decide))) dX6_unit_161
  have J160 : ∀ (H : Heap) (locs : List Loc) (ls : Array Slot), th_H D cT T (kd q) H → va_S (th_A T [2, 56, 57]) s.heap H locs → lv_has ls 4 [] → W p l e (rmk 8 201) s m [.ref a0, .int y1].toArray below meth c H locs 0 0 (MQ below (th_Q D cT T (kd q) (th_R T (some (.inl (0, 1)))) [2, 56, 57]) [.ref a0, .int y1].toArray s 0 0 (th_A T [2, 56, 57])) (F0 m 160 ls []) := by
    intro H locs ls hH hS hl
    refine lv_iconst (v := 0) hx hb dX6_unit_160 (by decide) ?_
    exact J161_s0_0 H locs ls  hH hS (lv_sub hl [] rfl)
  have J94 : ∀ (H : Heap) (locs : List Loc) (ls : Array Slot) (v94_2 : Int32) (v94_3 : Int32) (u94_a0_3 : Int32), IV v94_2 3 142 → IV v94_3 0 1 → IV u94_a0_3 (-2147483648) 29 → th_fa D H a0 6 3 (.int u94_a0_3) → th_H D cT T (kd q) H → va_S (th_A T [2, 56, 57]) s.heap H locs → lv_has ls 4 [(0, .ref a0), (1, .int y1), (2, .int v94_2), (3, .int v94_3)] → W p l e (rmk 8 201) s m [.ref a0, .int y1].toArray below meth c H locs 0 0 (MQ below (th_Q D cT T (kd q) (th_R T (some (.inl (0, 1)))) [2, 56, 57]) [.ref a0, .int y1].toArray s 0 0 (th_A T [2, 56, 57])) (F0 m 94 ls []) := by
    intro H locs ls v94_2 v94_3 u94_a0_3 iv94_2 iv94_3 iu94_a0_3 gu94_a0_3 hH hS hl
    refine lv_aload_n hx hb dX6_unit_94 rfl (lv_at hl 0 rfl) ?_
    refine lv_dup hx hb dX6_unit_95 rfl ?_
    refine th_getK S hK gu94_a0_3 inG6 rfl (by decide) gm_343 rfl dX6_unit_96 ?_
    refine lv_iconst (v := 1) hx hb dX6_unit_99 (by decide) ?_
    refine lv_iadd hx hb dX6_unit_100 ?_
    refine lv_topi (fun x8 ex8 => ?_)
    have ix8 : IV x8 (-2147483647) 30 := by rw [ex8]; exact iv_add iu94_a0_3 (iv_c (by decide) : IV 1 1 1) (by decide)
    refine th_put S hK hH hS ⟨2, by decide, t0⟩ inG6 tyX6 tyX6_ok nmX6 t0 kd_2 rfl 3 (by decide) gm_343 rfl rfl rfl rfl (th_iv (iv_top _)) (fun _ _ => trivial) (ty := .int) (by decide +kernel) rfl rfl dX6_unit_101 (fun H locs hH hS hq1 hp1 => ?_)
    have f9 := hp1.1
    refine lv_aload_n hx hb dX6_unit_104 rfl (lv_at hl 0 rfl) ?_
    refine th_get S hK hH inG6 t0 kd_2 rfl 1 (by decide) gm_340 rfl rfl dX6_unit_105 (fun v10 hv10 fv10 => ?_)
    obtain ⟨rf11, rfl, trf11⟩ := th_V.ref hv10
    refine th_get S hK hH inG4 trf11 kd_46 rfl 9 (by decide) gm_269 rfl rfl dX6_unit_108 (fun v12 hv12 fv12 => ?_)
    obtain ⟨rf13, rfl, trf13⟩ := th_V.ref hv12
    refine lv_dup hx hb dX6_unit_111 rfl ?_
    refine th_get S hK hH inG2 trf13 kd_56 rfl 6 (by decide) gm_202 rfl rfl dX6_unit_112 (fun v14 hv14 fv14 => ?_)
    obtain ⟨x15, rfl, ix15⟩ := th_V.int hv14
    refine lv_iconst (v := 1) hx hb dX6_unit_115 (by decide) ?_
    refine lv_iadd hx hb dX6_unit_116 ?_
    refine lv_topi (fun x16 ex16 => ?_)
    have ix16 := iv_top x16
    refine th_put S hK hH hS ⟨56, by decide, trf13⟩ inG2 tyX2 tyX2_ok nmX2 trf13 kd_56 rfl 6 (by decide) gm_202 rfl rfl rfl rfl (th_iv ix16) (fun _ _ => trivial) (ty := .int) (by decide +kernel) rfl rfl dX6_unit_117 (fun H locs hH hS hq1 hp1 => ?_)
    have f17 := f9.kept (hq1 _ (th_ne t0 trf13 (by decide)))
    have f18 := fv10.kept (hq1 _ (th_ne t0 trf13 (by decide)))
    have f19 := fv12.kept (hq1 _ (th_ne trf11 trf13 (by decide)))
    have f20 := hp1.1
    refine lv_iload_n hx hb dX6_unit_120 rfl (lv_at hl 2 rfl) ?_
    refine lv_bipush (v := 40) hx hb dX6_unit_121 (by decide) ?_
    refine lv_icmp_ne (tgt := 162) hx hb dX6_unit_123 (by decide) (fun c21 => ?_) (fun c21 => ?_)
    · skip
      refine lv_aload_n hx hb dX6_unit_162 rfl (lv_at hl 0 rfl) ?_
      refine th_getK S hK f18 inG6 rfl (by decide) gm_340 rfl dX6_unit_163 ?_
      refine th_getK S hK f19 inG4 rfl (by decide) gm_269 rfl dX6_unit_166 ?_
      refine lv_iload_n hx hb dX6_unit_169 rfl (lv_at hl 3 rfl) ?_
      refine lv_if_eq (tgt := 178) hx hb dX6_unit_170 (by decide) (fun c24 => ?_) (fun c24 => ?_)
      · skip
        have ir25 : IV v94_3 0 0 := iv_eL c24 (iv_c (by decide) : IV 0 0 0)
        refine lv_aload_n hx hb dX6_unit_178 rfl (lv_at hl 0 rfl) ?_
        refine th_callVl (n := 0) (As := []) S hK hH hS (th_A.sub (by decide)) (m_X6_value l D cT T q hq a0 t0) gm_738 gm_735 gm_737 gm_10 gm_115 (by decide +kernel) ⟨rfl, rfl, Nat.le_of_ble_eq_true rfl, Nat.le_of_ble_eq_true rfl⟩ t0 kd_2 rfl rfl hl.1 rfl (Nat.le_of_ble_eq_true rfl) dX6_unit_179 ⟨Nat.zero_le _, Nat.zero_le _⟩ (fun lg26 H locs hH hS hF1 => ?_)
        have f27 := f17.kept (hF1 _ f17.lt (th_off t0 (by decide)))
        have f28 := f18.kept (hF1 _ f18.lt (th_off t0 (by decide)))
        have f29 := f19.kept (hF1 _ f19.lt (th_off trf11 (by decide)))
        have f30 := f20.kept (hF1 _ f20.lt (th_off trf13 (by decide)))
        refine lv_l2i (v := _) hx hb dX6_unit_182 rfl ?_
        refine lv_topi (fun x31 ex31 => ?_)
        have ix31 := iv_top x31
        exact J183 H locs ls rf13 x31 x8 trf13 ix31 ix8 f27 hH hS (lv_sub hl [0] rfl)
      · skip
        have ir32 : IV v94_3 1 1 := iv_cutL iv94_3 (iv_c (by decide) : IV 0 0 0) c24 (by decide)
        refine lv_iload_n hx hb dX6_unit_173 rfl (lv_at hl 2 rfl) ?_
        refine lv_ineg hx hb dX6_unit_174 ?_
        refine lv_topi (fun x33 ex33 => ?_)
        have ix33 := iv_top x33
        refine lv_goto (tgt := 183) hx hb dX6_unit_175 (by decide) ?_
        exact J183 H locs ls rf13 x33 x8 trf13 ix33 ix8 f17 hH hS (lv_sub hl [0] rfl)
    · skip
      have ir34 : IV v94_2 40 40 := iv_eL c21 (iv_c (by decide) : IV 40 40 40)
      refine lv_aload_n hx hb dX6_unit_126 rfl (lv_at hl 0 rfl) ?_
      refine lv_dup hx hb dX6_unit_127 rfl ?_
      refine th_get S hK hH inG6 t0 kd_2 rfl 2 (by decide) gm_342 rfl rfl dX6_unit_128 (fun v35 hv35 fv35 => ?_)
      obtain ⟨x36, rfl, ix36⟩ := th_V.int hv35
      refine lv_iconst (v := 1) hx hb dX6_unit_131 (by decide) ?_
      refine lv_iadd hx hb dX6_unit_132 ?_
      refine lv_topi (fun x37 ex37 => ?_)
      have ix37 := iv_top x37
      refine th_put S hK hH hS ⟨2, by decide, t0⟩ inG6 tyX6 tyX6_ok nmX6 t0 kd_2 rfl 2 (by decide) gm_342 rfl rfl rfl rfl (th_iv ix37) (fun _ _ => trivial) (ty := .int) (by decide +kernel) rfl rfl dX6_unit_133 (fun H locs hH hS hq1 hp1 => ?_)
      have f38 := hp1.2 3 _ (by decide) (by decide) f17
      have f39 := hp1.2 1 _ (by decide) (by decide) f18
      have f40 := f19.kept (hq1 _ (th_ne trf11 t0 (by decide)))
      have f41 := f20.kept (hq1 _ (th_ne trf13 t0 (by decide)))
      have f42 := hp1.1
      refine lv_aload_n hx hb dX6_unit_136 rfl (lv_at hl 0 rfl) ?_
      refine lv_iconst (v := 0) hx hb dX6_unit_137 (by decide) ?_
      refine lv_iload_n hx hb dX6_unit_138 rfl (lv_at hl 1 rfl) ?_
      refine lv_iconst (v := 1) hx hb dX6_unit_139 (by decide) ?_
      refine lv_iadd hx hb dX6_unit_140 ?_
      refine lv_topi (fun x43 ex43 => ?_)
      have ix43 : IV x43 7 7 := by rw [ex43]; exact iv_add j1 (iv_c (by decide) : IV 1 1 1) (by decide)
      refine th_callVi (n := 2) (As := [.int 0, .int x43]) S hK hH hS (th_A.sub (by decide)) (m_X6_climb_d7l0 l D cT T q hq a0 t0 (0) (iv_w (iv_c (by decide) : IV 0 0 0) (by decide)) (x43) ix43) gm_762 gm_759 gm_761 gm_15 gm_115 (by decide +kernel) ⟨rfl, rfl, Nat.le_of_ble_eq_true rfl, Nat.le_of_ble_eq_true rfl⟩ t0 kd_2 rfl rfl hl.1 rfl (Nat.le_of_ble_eq_true rfl) dX6_unit_141 ⟨Nat.zero_le _, Nat.zero_le _⟩ (fun x44 H locs ix44 hH hS hF1 => ?_)
      have f45 := f40.kept (hF1 _ f40.lt (th_off trf11 (by decide)))
      refine lv_if_eq (tgt := 160) hx hb dX6_unit_144 (by decide) (fun c46 => ?_) (fun c46 => ?_)
      · skip
        have ir47 : IV x44 0 0 := iv_eL c46 (iv_c (by decide) : IV 0 0 0)
        exact J160 H locs ls  hH hS (lv_sub hl [] rfl)
      · skip
        have ir48 : IV x44 1 1 := iv_cutL ix44 (iv_c (by decide) : IV 0 0 0) c46 (by decide)
        refine lv_aload_n hx hb dX6_unit_147 rfl (lv_at hl 0 rfl) ?_
        refine lv_bipush (v := 41) hx hb dX6_unit_148 (by decide) ?_
        refine th_callVi (n := 1) (As := [.int 41]) S hK hH hS (th_A.sub (by decide)) (m_X6_take l D cT T q hq a0 t0 (41) (iv_top _)) gm_750 gm_747 gm_749 gm_13 gm_115 (by decide +kernel) ⟨rfl, rfl, Nat.le_of_ble_eq_true rfl, Nat.le_of_ble_eq_true rfl⟩ t0 kd_2 rfl rfl hl.1 rfl (Nat.le_of_ble_eq_true rfl) dX6_unit_150 ⟨Nat.zero_le _, Nat.zero_le _⟩ (fun x49 H locs ix49 hH hS hF1 => ?_)
        have f50 := f45.kept (hF1 _ f45.lt (th_off trf11 (by decide)))
        refine lv_if_eq (tgt := 160) hx hb dX6_unit_153 (by decide) (fun c51 => ?_) (fun c51 => ?_)
        · skip
          have ir52 : IV x49 0 0 := iv_eL c51 (iv_c (by decide) : IV 0 0 0)
          exact J160 H locs ls  hH hS (lv_sub hl [] rfl)
        · skip
          have ir53 : IV x49 1 1 := iv_cutL ix49 (iv_c (by decide) : IV 0 0 0) c51 (by decide)
          refine lv_iconst (v := 1) hx hb dX6_unit_156 (by decide) ?_
          refine lv_goto (tgt := 161) hx hb dX6_unit_157 (by decide) ?_
          exact J161_s0_1 H locs ls  hH hS (lv_sub hl [] rfl)
  have J70 : ∀ (H : Heap) (locs : List Loc) (ls : Array Slot) (u70_a0_3 : Int32), IV u70_a0_3 (-2147483648) 2147483647 → th_fa D H a0 6 3 (.int u70_a0_3) → th_H D cT T (kd q) H → va_S (th_A T [2, 56, 57]) s.heap H locs → lv_has ls 4 [(0, .ref a0)] → W p l e (rmk 8 201) s m [.ref a0, .int y1].toArray below meth c H locs 0 0 (MQ below (th_Q D cT T (kd q) (th_R T (some (.inl (0, 1)))) [2, 56, 57]) [.ref a0, .int y1].toArray s 0 0 (th_A T [2, 56, 57])) (F0 m 70 ls []) := by
    intro H locs ls u70_a0_3 iu70_a0_3 gu70_a0_3 hH hS hl
    refine lv_aload_n hx hb dX6_unit_70 rfl (lv_at hl 0 rfl) ?_
    refine lv_iconst (v := 2) hx hb dX6_unit_71 (by decide) ?_
    refine th_callVi (n := 1) (As := [.int 2]) S hK hH hS (th_A.sub (by decide)) (m_X6_blame l D cT T q hq a0 t0 (2) (iv_top _)) gm_722 gm_719 gm_721 gm_6 gm_115 (by decide +kernel) ⟨rfl, rfl, Nat.le_of_ble_eq_true rfl, Nat.le_of_ble_eq_true rfl⟩ t0 kd_2 rfl rfl hl.1 rfl (Nat.le_of_ble_eq_true rfl) dX6_unit_72 ⟨Nat.zero_le _, Nat.zero_le _⟩ (fun x54 H locs ix54 hH hS hF1 => ?_)
    exact th_zret S hK hH hS hr hlocks (iv_w ix54 (by decide)) (th_R.i (iv_w ix54 (by decide))) dX6_unit_75
  have J46 : ∀ (H : Heap) (locs : List Loc) (ls : Array Slot) (v46_2 : Int32) (v46_3 : Int32), IV v46_2 3 142 → IV v46_3 0 1 → th_H D cT T (kd q) H → va_S (th_A T [2, 56, 57]) s.heap H locs → lv_has ls 4 [(0, .ref a0), (1, .int y1), (2, .int v46_2), (3, .int v46_3)] → W p l e (rmk 8 201) s m [.ref a0, .int y1].toArray below meth c H locs 0 0 (MQ below (th_Q D cT T (kd q) (th_R T (some (.inl (0, 1)))) [2, 56, 57]) [.ref a0, .int y1].toArray s 0 0 (th_A T [2, 56, 57])) (F0 m 46 ls []) := by
    intro H locs ls v46_2 v46_3 iv46_2 iv46_3 hH hS hl
    refine lv_aload_n hx hb dX6_unit_46 rfl (lv_at hl 0 rfl) ?_
    refine th_get S hK hH inG6 t0 kd_2 rfl 3 (by decide) gm_343 rfl rfl dX6_unit_47 (fun v55 hv55 fv55 => ?_)
    obtain ⟨x56, rfl, ix56⟩ := th_V.int hv55
    refine lv_bipush (v := 30) hx hb dX6_unit_50 (by decide) ?_
    refine lv_icmp_ge (tgt := 70) hx hb dX6_unit_52 (by decide) (fun c57 => ?_) (fun c57 => ?_)
    · skip
      have ir58 : IV x56 30 2147483647 := iv_vR (iv_c (by decide) : IV 30 30 30) ix56 (iv_le c57) (by decide)
      exact J70 H locs ls x56 (iv_top _) fv55 hH hS (lv_sub hl [0] rfl)
    · skip
      have ir59 : IV x56 (-2147483648) 29 := iv_uL ix56 (iv_c (by decide) : IV 30 30 30) (iv_nle c57) (by decide)
      refine lv_aload_n hx hb dX6_unit_55 rfl (lv_at hl 0 rfl) ?_
      refine th_get S hK hH inG6 t0 kd_2 rfl 1 (by decide) gm_340 rfl rfl dX6_unit_56 (fun v60 hv60 fv60 => ?_)
      obtain ⟨rf61, rfl, trf61⟩ := th_V.ref hv60
      refine th_get S hK hH inG4 trf61 kd_46 rfl 9 (by decide) gm_269 rfl rfl dX6_unit_59 (fun v62 hv62 fv62 => ?_)
      obtain ⟨rf63, rfl, trf63⟩ := th_V.ref hv62
      refine th_get S hK hH inG2 trf63 kd_56 rfl 6 (by decide) gm_202 rfl rfl dX6_unit_62 (fun v64 hv64 fv64 => ?_)
      obtain ⟨x65, rfl, ix65⟩ := th_V.int hv64
      refine lv_bipush (v := 90) hx hb dX6_unit_65 (by decide) ?_
      refine lv_icmp_lt (tgt := 76) hx hb dX6_unit_67 (by decide) (fun c66 => ?_) (fun c66 => ?_)
      · skip
        have ir67 : IV x65 (-2147483648) 89 := iv_uL ix65 (iv_c (by decide) : IV 90 90 90) (iv_lt c66) (by decide)
        refine lv_iload_n hx hb dX6_unit_76 rfl (lv_at hl 2 rfl) ?_
        refine lv_bipush (v := 40) hx hb dX6_unit_77 (by decide) ?_
        refine lv_icmp_ne (tgt := 94) hx hb dX6_unit_79 (by decide) (fun c68 => ?_) (fun c68 => ?_)
        · skip
          exact J94 H locs ls v46_2 v46_3 x56 iv46_2 iv46_3 ir59 fv55 hH hS (lv_sub hl [0, 1, 2, 3] rfl)
        · skip
          have ir69 : IV v46_2 40 40 := iv_eL c68 (iv_c (by decide) : IV 40 40 40)
          refine lv_iload_n hx hb dX6_unit_82 rfl (lv_at hl 1 rfl) ?_
          refine lv_bipush (v := 7) hx hb dX6_unit_83 (by decide) ?_
          refine lv_icmp_lt (tgt := 94) hx hb dX6_unit_85 (by decide) (fun c70 => ?_) (fun c70 => ?_)
          · skip
            exact J94 H locs ls v46_2 v46_3 x56 (iv_w ir69 (by decide)) iv46_3 ir59 fv55 hH hS (lv_sub hl [0, 1, 2, 3] rfl)
          · skip
            exfalso
            have z1 := iv_nlt c70
            have z2 := (j1).1
            have z3 := (j1).2
            have z4 := ((iv_c (by decide) : IV 7 7 7)).1
            have z5 := ((iv_c (by decide) : IV 7 7 7)).2
            omega
      · skip
        have ir71 : IV x65 90 2147483647 := iv_vR (iv_c (by decide) : IV 90 90 90) ix65 (iv_nlt c66) (by decide)
        exact J70 H locs ls x56 (iv_top _) fv55 hH hS (lv_sub hl [0] rfl)
  have J24_s0_0 : ∀ (H : Heap) (locs : List Loc) (ls : Array Slot) (v24_2 : Int32), IV v24_2 (-2147483648) 2147483647 → th_H D cT T (kd q) H → va_S (th_A T [2, 56, 57]) s.heap H locs → lv_has ls 4 [(0, .ref a0), (1, .int y1), (2, .int v24_2)] → W p l e (rmk 8 201) s m [.ref a0, .int y1].toArray below meth c H locs 0 0 (MQ below (th_Q D cT T (kd q) (th_R T (some (.inl (0, 1)))) [2, 56, 57]) [.ref a0, .int y1].toArray s 0 0 (th_A T [2, 56, 57])) (F0 m 24 ls [.int 0]) := by
    intro H locs ls v24_2 iv24_2 hH hS hl
    refine lv_istore_n (lv' := [(3, .int 0), (0, .ref a0), (1, .int y1), (2, .int v24_2)]) hx hb dX6_unit_24 rfl hl (by decide) rfl (fun ls hl => ?_)
    refine lv_iload_n hx hb dX6_unit_25 rfl (lv_at hl 3 rfl) ?_
    refine lv_iconst (v := 3) hx hb dX6_unit_26 (by decide) ?_
    refine lv_icmp_eq (tgt := 46) hx hb dX6_unit_27 (by decide) (fun c72 => ?_) (fun c72 => ?_)
    · skip
      have ir73 : IV v24_2 3 3 := iv_eL c72 (iv_c (by decide) : IV 3 3 3)
      exact J46 H locs ls v24_2 0 (iv_w ir73 (by decide)) (iv_w (iv_c (by decide) : IV 0 0 0) (by decide)) hH hS (lv_sub hl [1, 2, 3, 0] rfl)
    · skip
      refine lv_iload_n hx hb dX6_unit_30 rfl (lv_at hl 3 rfl) ?_
      refine lv_bipush (v := 40) hx hb dX6_unit_31 (by decide) ?_
      refine lv_icmp_eq (tgt := 46) hx hb dX6_unit_33 (by decide) (fun c74 => ?_) (fun c74 => ?_)
      · skip
        have ir75 : IV v24_2 40 40 := iv_eL c74 (iv_c (by decide) : IV 40 40 40)
        exact J46 H locs ls v24_2 0 (iv_w ir75 (by decide)) (iv_w (iv_c (by decide) : IV 0 0 0) (by decide)) hH hS (lv_sub hl [1, 2, 3, 0] rfl)
      · skip
        refine lv_iload_n hx hb dX6_unit_36 rfl (lv_at hl 0 rfl) ?_
        refine lv_if_ne (tgt := 46) hx hb dX6_unit_37 (by decide) (fun c76 => ?_) (fun c76 => ?_)
        · skip
          exact absurd (iv_eqc (iv_c (by decide) : IV 0 0 0) (iv_c (by decide) : IV 0 0 0)) c76
        · skip
          refine lv_aload_n hx hb dX6_unit_40 rfl (lv_at hl 1 rfl) ?_
          refine lv_iconst (v := 2) hx hb dX6_unit_41 (by decide) ?_
          refine th_callVi (n := 1) (As := [.int 2]) S hK hH hS (th_A.sub (by decide)) (m_X6_blame l D cT T q hq a0 t0 (2) (iv_top _)) gm_722 gm_719 gm_721 gm_6 gm_115 (by decide +kernel) ⟨rfl, rfl, Nat.le_of_ble_eq_true rfl, Nat.le_of_ble_eq_true rfl⟩ t0 kd_2 rfl rfl hl.1 rfl (Nat.le_of_ble_eq_true rfl) dX6_unit_42 ⟨Nat.zero_le _, Nat.zero_le _⟩ (fun x77 H locs ix77 hH hS hF1 => ?_)
          exact th_zret S hK hH hS hr hlocks (iv_w ix77 (by decide)) (th_R.i (iv_w ix77 (by decide))) dX6_unit_45
  have J24_s0_1 : ∀ (H : Heap) (locs : List Loc) (ls : Array Slot) (v24_2 : Int32), IV v24_2 136 142 → th_H D cT T (kd q) H → va_S (th_A T [2, 56, 57]) s.heap H locs → lv_has ls 4 [(0, .ref a0), (1, .int y1), (2, .int v24_2)] → W p l e (rmk 8 201) s m [.ref a0, .int y1].toArray below meth c H locs 0 0 (MQ below (th_Q D cT T (kd q) (th_R T (some (.inl (0, 1)))) [2, 56, 57]) [.ref a0, .int y1].toArray s 0 0 (th_A T [2, 56, 57])) (F0 m 24 ls [.int 1]) := by
    intro H locs ls v24_2 iv24_2 hH hS hl
    refine lv_istore_n (lv' := [(3, .int 1), (0, .ref a0), (1, .int y1), (2, .int v24_2)]) hx hb dX6_unit_24 rfl hl (by decide) rfl (fun ls hl => ?_)
    refine lv_iload_n hx hb dX6_unit_25 rfl (lv_at hl 3 rfl) ?_
    refine lv_iconst (v := 3) hx hb dX6_unit_26 (by decide) ?_
    refine lv_icmp_eq (tgt := 46) hx hb dX6_unit_27 (by decide) (fun c78 => ?_) (fun c78 => ?_)
    · skip
      exfalso
      have z1 := congrArg Int32.toInt c78
      have z2 := (iv24_2).1
      have z3 := (iv24_2).2
      have z4 := ((iv_c (by decide) : IV 3 3 3)).1
      have z5 := ((iv_c (by decide) : IV 3 3 3)).2
      omega
    · skip
      refine lv_iload_n hx hb dX6_unit_30 rfl (lv_at hl 3 rfl) ?_
      refine lv_bipush (v := 40) hx hb dX6_unit_31 (by decide) ?_
      refine lv_icmp_eq (tgt := 46) hx hb dX6_unit_33 (by decide) (fun c79 => ?_) (fun c79 => ?_)
      · skip
        exfalso
        have z1 := congrArg Int32.toInt c79
        have z2 := (iv24_2).1
        have z3 := (iv24_2).2
        have z4 := ((iv_c (by decide) : IV 40 40 40)).1
        have z5 := ((iv_c (by decide) : IV 40 40 40)).2
        omega
      · skip
        refine lv_iload_n hx hb dX6_unit_36 rfl (lv_at hl 0 rfl) ?_
        refine lv_if_ne (tgt := 46) hx hb dX6_unit_37 (by decide) (fun c80 => ?_) (fun c80 => ?_)
        · skip
          exact J46 H locs ls v24_2 1 (iv_w iv24_2 (by decide)) (iv_w (iv_c (by decide) : IV 1 1 1) (by decide)) hH hS (lv_sub hl [1, 2, 3, 0] rfl)
        · skip
          exfalso
          have z1 := congrArg Int32.toInt c80
          have z2 := ((iv_c (by decide) : IV 1 1 1)).1
          have z3 := ((iv_c (by decide) : IV 1 1 1)).2
          have z4 := ((iv_c (by decide) : IV 0 0 0)).1
          have z5 := ((iv_c (by decide) : IV 0 0 0)).2
          omega
  have J23 : ∀ (H : Heap) (locs : List Loc) (ls : Array Slot) (v23_2 : Int32), IV v23_2 (-2147483648) 2147483647 → th_H D cT T (kd q) H → va_S (th_A T [2, 56, 57]) s.heap H locs → lv_has ls 4 [(0, .ref a0), (1, .int y1), (2, .int v23_2)] → W p l e (rmk 8 201) s m [.ref a0, .int y1].toArray below meth c H locs 0 0 (MQ below (th_Q D cT T (kd q) (th_R T (some (.inl (0, 1)))) [2, 56, 57]) [.ref a0, .int y1].toArray s 0 0 (th_A T [2, 56, 57])) (F0 m 23 ls []) := by
    intro H locs ls v23_2 iv23_2 hH hS hl
    refine lv_iconst (v := 0) hx hb dX6_unit_23 (by decide) ?_
    exact J24_s0_0 H locs ls v23_2 iv23_2 hH hS (lv_sub hl [0, 1, 2] rfl)
  have J0 : ∀ (H : Heap) (locs : List Loc) (ls : Array Slot), th_H D cT T (kd q) H → va_S (th_A T [2, 56, 57]) s.heap H locs → lv_has ls 4 [(0, .ref a0), (1, .int y1)] → W p l e (rmk 8 201) s m [.ref a0, .int y1].toArray below meth c H locs 0 0 (MQ below (th_Q D cT T (kd q) (th_R T (some (.inl (0, 1)))) [2, 56, 57]) [.ref a0, .int y1].toArray s 0 0 (th_A T [2, 56, 57])) (F0 m 0 ls []) := by
    intro H locs ls hH hS hl
    refine lv_aload_n hx hb dX6_unit_0 rfl (lv_at hl 0 rfl) ?_
    refine th_callVi (n := 0) (As := []) S hK hH hS (th_A.sub (by decide)) (m_X6_kind l D cT T q hq a0 t0) gm_708 gm_705 gm_707 gm_5 gm_115 (by decide +kernel) ⟨rfl, rfl, Nat.le_of_ble_eq_true rfl, Nat.le_of_ble_eq_true rfl⟩ t0 kd_2 rfl rfl hl.1 rfl (Nat.le_of_ble_eq_true rfl) dX6_unit_1 ⟨Nat.zero_le _, Nat.zero_le _⟩ (fun x81 H locs ix81 hH hS hF1 => ?_)
    refine lv_istore_n (lv' := [(2, .int x81), (0, .ref a0), (1, .int y1)]) hx hb dX6_unit_4 rfl hl (by decide) rfl (fun ls hl => ?_)
    refine lv_iload_n hx hb dX6_unit_5 rfl (lv_at hl 0 rfl) ?_
    refine lv_sipush (v := 136) hx hb dX6_unit_6 (by decide) ?_
    refine lv_icmp_lt (tgt := 23) hx hb dX6_unit_9 (by decide) (fun c82 => ?_) (fun c82 => ?_)
    · skip
      have ir83 : IV x81 (-2147483648) 135 := iv_uL ix81 (iv_c (by decide) : IV 136 136 136) (iv_lt c82) (by decide)
      exact J23 H locs ls x81 (iv_top _) hH hS (lv_sub hl [1, 2, 0] rfl)
    · skip
      have ir84 : IV x81 136 2147483647 := iv_vR (iv_c (by decide) : IV 136 136 136) ix81 (iv_nlt c82) (by decide)
      refine lv_iload_n hx hb dX6_unit_12 rfl (lv_at hl 0 rfl) ?_
      refine lv_sipush (v := 142) hx hb dX6_unit_13 (by decide) ?_
      refine lv_icmp_gt (tgt := 23) hx hb dX6_unit_16 (by decide) (fun c85 => ?_) (fun c85 => ?_)
      · skip
        have ir86 : IV x81 143 2147483647 := iv_uR (iv_c (by decide) : IV 142 142 142) ir84 (iv_lt c85) (by decide)
        exact J23 H locs ls x81 (iv_top _) hH hS (lv_sub hl [1, 2, 0] rfl)
      · skip
        have ir87 : IV x81 136 142 := iv_vL ir84 (iv_c (by decide) : IV 142 142 142) (iv_nlt c85) (by decide)
        refine lv_iconst (v := 1) hx hb dX6_unit_19 (by decide) ?_
        refine lv_goto (tgt := 24) hx hb dX6_unit_20 (by decide) ?_
        exact J24_s0_1 H locs ls x81 ir87 hH hS (lv_sub hl [1, 2, 0] rfl)
  exact J0 s.heap [] ls hH va_S.rf hl
