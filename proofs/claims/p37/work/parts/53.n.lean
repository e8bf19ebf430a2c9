theorem dX11_isGood_0 : decode cX11_isGood 0 = .ok (.aload_n 0, 1) := by decide +kernel
theorem dX11_isGood_1 : decode cX11_isGood 1 = .ok (.getfield 158, 3) := by decide +kernel
theorem dX11_isGood_4 : decode cX11_isGood 4 = .ok (.ifCond .ne 7, 3) := by decide +kernel
theorem dX11_isGood_7 : decode cX11_isGood 7 = .ok (.iconst 1, 1) := by decide +kernel
theorem dX11_isGood_8 : decode cX11_isGood 8 = .ok (.goto 4, 3) := by decide +kernel
theorem dX11_isGood_11 : decode cX11_isGood 11 = .ok (.iconst 0, 1) := by decide +kernel
theorem dX11_isGood_12 : decode cX11_isGood 12 = .ok (.ireturn, 1) := by decide +kernel
theorem dX11_isKept_0 : decode cX11_isKept 0 = .ok (.lload_n 0, 1) := by decide +kernel
theorem dX11_isKept_1 : decode cX11_isKept 1 = .ok (.ldc2_w 161, 3) := by decide +kernel
theorem dX11_isKept_4 : decode cX11_isKept 4 = .ok (.lcmp, 1) := by decide +kernel
theorem dX11_isKept_5 : decode cX11_isKept 5 = .ok (.ifCond .eq 83, 3) := by decide +kernel
theorem dX11_isKept_8 : decode cX11_isKept 8 = .ok (.lload_n 0, 1) := by decide +kernel
theorem dX11_isKept_9 : decode cX11_isKept 9 = .ok (.ldc2_w 163, 3) := by decide +kernel
theorem dX11_isKept_12 : decode cX11_isKept 12 = .ok (.lcmp, 1) := by decide +kernel
theorem dX11_isKept_13 : decode cX11_isKept 13 = .ok (.ifCond .eq 75, 3) := by decide +kernel
theorem dX11_isKept_16 : decode cX11_isKept 16 = .ok (.lload_n 0, 1) := by decide +kernel
theorem dX11_isKept_17 : decode cX11_isKept 17 = .ok (.ldc2_w 165, 3) := by decide +kernel
theorem dX11_isKept_20 : decode cX11_isKept 20 = .ok (.lcmp, 1) := by decide +kernel
theorem dX11_isKept_21 : decode cX11_isKept 21 = .ok (.ifCond .eq 67, 3) := by decide +kernel
theorem dX11_isKept_24 : decode cX11_isKept 24 = .ok (.lload_n 0, 1) := by decide +kernel
theorem dX11_isKept_25 : decode cX11_isKept 25 = .ok (.ldc2_w 167, 3) := by decide +kernel
theorem dX11_isKept_28 : decode cX11_isKept 28 = .ok (.lcmp, 1) := by decide +kernel
theorem dX11_isKept_29 : decode cX11_isKept 29 = .ok (.ifCond .eq 59, 3) := by decide +kernel
theorem dX11_isKept_32 : decode cX11_isKept 32 = .ok (.lload_n 0, 1) := by decide +kernel
theorem dX11_isKept_33 : decode cX11_isKept 33 = .ok (.ldc2_w 169, 3) := by decide +kernel
theorem dX11_isKept_36 : decode cX11_isKept 36 = .ok (.lcmp, 1) := by decide +kernel
theorem dX11_isKept_37 : decode cX11_isKept 37 = .ok (.ifCond .eq 51, 3) := by decide +kernel
theorem dX11_isKept_40 : decode cX11_isKept 40 = .ok (.lload_n 0, 1) := by decide +kernel
theorem dX11_isKept_41 : decode cX11_isKept 41 = .ok (.ldc2_w 171, 3) := by decide +kernel
theorem dX11_isKept_44 : decode cX11_isKept 44 = .ok (.lcmp, 1) := by decide +kernel
theorem dX11_isKept_45 : decode cX11_isKept 45 = .ok (.ifCond .eq 43, 3) := by decide +kernel
theorem dX11_isKept_48 : decode cX11_isKept 48 = .ok (.lload_n 0, 1) := by decide +kernel
theorem dX11_isKept_49 : decode cX11_isKept 49 = .ok (.ldc2_w 173, 3) := by decide +kernel
theorem dX11_isKept_52 : decode cX11_isKept 52 = .ok (.lcmp, 1) := by decide +kernel
theorem dX11_isKept_53 : decode cX11_isKept 53 = .ok (.ifCond .eq 35, 3) := by decide +kernel
theorem dX11_isKept_56 : decode cX11_isKept 56 = .ok (.lload_n 0, 1) := by decide +kernel
theorem dX11_isKept_57 : decode cX11_isKept 57 = .ok (.ldc2_w 175, 3) := by decide +kernel
theorem dX11_isKept_60 : decode cX11_isKept 60 = .ok (.lcmp, 1) := by decide +kernel
theorem dX11_isKept_61 : decode cX11_isKept 61 = .ok (.ifCond .eq 27, 3) := by decide +kernel
theorem dX11_isKept_64 : decode cX11_isKept 64 = .ok (.lload_n 0, 1) := by decide +kernel
theorem dX11_isKept_65 : decode cX11_isKept 65 = .ok (.ldc2_w 177, 3) := by decide +kernel
theorem dX11_isKept_68 : decode cX11_isKept 68 = .ok (.lcmp, 1) := by decide +kernel
theorem dX11_isKept_69 : decode cX11_isKept 69 = .ok (.ifCond .eq 19, 3) := by decide +kernel
theorem dX11_isKept_72 : decode cX11_isKept 72 = .ok (.lload_n 0, 1) := by decide +kernel
theorem dX11_isKept_73 : decode cX11_isKept 73 = .ok (.ldc2_w 179, 3) := by decide +kernel
theorem dX11_isKept_76 : decode cX11_isKept 76 = .ok (.lcmp, 1) := by decide +kernel
theorem dX11_isKept_77 : decode cX11_isKept 77 = .ok (.ifCond .eq 11, 3) := by decide +kernel
theorem dX11_isKept_80 : decode cX11_isKept 80 = .ok (.lload_n 0, 1) := by decide +kernel
theorem dX11_isKept_81 : decode cX11_isKept 81 = .ok (.ldc2_w 181, 3) := by decide +kernel
theorem dX11_isKept_84 : decode cX11_isKept 84 = .ok (.lcmp, 1) := by decide +kernel
theorem dX11_isKept_85 : decode cX11_isKept 85 = .ok (.ifCond .ne 7, 3) := by decide +kernel
theorem dX11_isKept_88 : decode cX11_isKept 88 = .ok (.iconst 1, 1) := by decide +kernel
theorem dX11_isKept_89 : decode cX11_isKept 89 = .ok (.goto 4, 3) := by decide +kernel
theorem dX11_isKept_92 : decode cX11_isKept 92 = .ok (.iconst 0, 1) := by decide +kernel
theorem dX11_isKept_93 : decode cX11_isKept 93 = .ok (.istore_n 2, 1) := by decide +kernel
theorem dX11_isKept_94 : decode cX11_isKept 94 = .ok (.iload_n 2, 1) := by decide +kernel
theorem dX11_isKept_95 : decode cX11_isKept 95 = .ok (.ifCond .ne 91, 3) := by decide +kernel
theorem dX11_isKept_98 : decode cX11_isKept 98 = .ok (.lload_n 0, 1) := by decide +kernel
theorem dX11_isKept_99 : decode cX11_isKept 99 = .ok (.ldc2_w 183, 3) := by decide +kernel
theorem dX11_isKept_102 : decode cX11_isKept 102 = .ok (.lcmp, 1) := by decide +kernel
theorem dX11_isKept_103 : decode cX11_isKept 103 = .ok (.ifCond .eq 83, 3) := by decide +kernel
theorem dX11_isKept_106 : decode cX11_isKept 106 = .ok (.lload_n 0, 1) := by decide +kernel
theorem dX11_isKept_107 : decode cX11_isKept 107 = .ok (.ldc2_w 185, 3) := by decide +kernel
theorem dX11_isKept_110 : decode cX11_isKept 110 = .ok (.lcmp, 1) := by decide +kernel
theorem dX11_isKept_111 : decode cX11_isKept 111 = .ok (.ifCond .eq 75, 3) := by decide +kernel
theorem dX11_isKept_114 : decode cX11_isKept 114 = .ok (.lload_n 0, 1) := by decide +kernel
theorem dX11_isKept_115 : decode cX11_isKept 115 = .ok (.ldc2_w 187, 3) := by decide +kernel
theorem dX11_isKept_118 : decode cX11_isKept 118 = .ok (.lcmp, 1) := by decide +kernel
theorem dX11_isKept_119 : decode cX11_isKept 119 = .ok (.ifCond .eq 67, 3) := by decide +kernel
theorem dX11_isKept_122 : decode cX11_isKept 122 = .ok (.lload_n 0, 1) := by decide +kernel
theorem dX11_isKept_123 : decode cX11_isKept 123 = .ok (.ldc2_w 189, 3) := by decide +kernel
theorem dX11_isKept_126 : decode cX11_isKept 126 = .ok (.lcmp, 1) := by decide +kernel
theorem dX11_isKept_127 : decode cX11_isKept 127 = .ok (.ifCond .eq 59, 3) := by decide +kernel
theorem dX11_isKept_130 : decode cX11_isKept 130 = .ok (.lload_n 0, 1) := by decide +kernel
theorem dX11_isKept_131 : decode cX11_isKept 131 = .ok (.ldc2_w 191, 3) := by decide +kernel
theorem dX11_isKept_134 : decode cX11_isKept 134 = .ok (.lcmp, 1) := by decide +kernel
theorem dX11_isKept_135 : decode cX11_isKept 135 = .ok (.ifCond .eq 51, 3) := by decide +kernel
theorem dX11_isKept_138 : decode cX11_isKept 138 = .ok (.lload_n 0, 1) := by decide +kernel
theorem dX11_isKept_139 : decode cX11_isKept 139 = .ok (.ldc2_w 193, 3) := by decide +kernel
theorem dX11_isKept_142 : decode cX11_isKept 142 = .ok (.lcmp, 1) := by decide +kernel
theorem dX11_isKept_143 : decode cX11_isKept 143 = .ok (.ifCond .eq 43, 3) := by decide +kernel
theorem dX11_isKept_146 : decode cX11_isKept 146 = .ok (.lload_n 0, 1) := by decide +kernel
theorem dX11_isKept_147 : decode cX11_isKept 147 = .ok (.ldc2_w 195, 3) := by decide +kernel
theorem dX11_isKept_150 : decode cX11_isKept 150 = .ok (.lcmp, 1) := by decide +kernel
theorem dX11_isKept_151 : decode cX11_isKept 151 = .ok (.ifCond .eq 35, 3) := by decide +kernel
theorem dX11_isKept_154 : decode cX11_isKept 154 = .ok (.lload_n 0, 1) := by decide +kernel
theorem dX11_isKept_155 : decode cX11_isKept 155 = .ok (.ldc2_w 197, 3) := by decide +kernel
theorem dX11_isKept_158 : decode cX11_isKept 158 = .ok (.lcmp, 1) := by decide +kernel
theorem dX11_isKept_159 : decode cX11_isKept 159 = .ok (.ifCond .eq 27, 3) := by decide +kernel
theorem dX11_isKept_162 : decode cX11_isKept 162 = .ok (.lload_n 0, 1) := by decide +kernel
theorem dX11_isKept_163 : decode cX11_isKept 163 = .ok (.ldc2_w 199, 3) := by decide +kernel
theorem dX11_isKept_166 : decode cX11_isKept 166 = .ok (.lcmp, 1) := by decide +kernel
theorem dX11_isKept_167 : decode cX11_isKept 167 = .ok (.ifCond .eq 19, 3) := by decide +kernel
theorem dX11_isKept_170 : decode cX11_isKept 170 = .ok (.lload_n 0, 1) := by decide +kernel
theorem dX11_isKept_171 : decode cX11_isKept 171 = .ok (.ldc2_w 201, 3) := by decide +kernel
theorem dX11_isKept_174 : decode cX11_isKept 174 = .ok (.lcmp, 1) := by decide +kernel
theorem dX11_isKept_175 : decode cX11_isKept 175 = .ok (.ifCond .eq 11, 3) := by decide +kernel
theorem dX11_isKept_178 : decode cX11_isKept 178 = .ok (.lload_n 0, 1) := by decide +kernel
theorem dX11_isKept_179 : decode cX11_isKept 179 = .ok (.ldc2_w 203, 3) := by decide +kernel
theorem dX11_isKept_182 : decode cX11_isKept 182 = .ok (.lcmp, 1) := by decide +kernel
theorem dX11_isKept_183 : decode cX11_isKept 183 = .ok (.ifCond .ne 7, 3) := by decide +kernel
theorem dX11_isKept_186 : decode cX11_isKept 186 = .ok (.iconst 1, 1) := by decide +kernel
theorem dX11_isKept_187 : decode cX11_isKept 187 = .ok (.goto 4, 3) := by decide +kernel
theorem dX11_isKept_190 : decode cX11_isKept 190 = .ok (.iconst 0, 1) := by decide +kernel
theorem dX11_isKept_191 : decode cX11_isKept 191 = .ok (.ireturn, 1) := by decide +kernel
theorem dX11_isSign_0 : decode cX11_isSign 0 = .ok (.iload_n 0, 1) := by decide +kernel
theorem dX11_isSign_1 : decode cX11_isSign 1 = .ok (.bipush 59, 2) := by decide +kernel
theorem dX11_isSign_3 : decode cX11_isSign 3 = .ok (.if_icmp .eq 63, 3) := by decide +kernel
theorem dX11_isSign_6 : decode cX11_isSign 6 = .ok (.iload_n 0, 1) := by decide +kernel
theorem dX11_isSign_7 : decode cX11_isSign 7 = .ok (.bipush 40, 2) := by decide +kernel
theorem dX11_isSign_9 : decode cX11_isSign 9 = .ok (.if_icmp .eq 57, 3) := by decide +kernel
theorem dX11_isSign_12 : decode cX11_isSign 12 = .ok (.iload_n 0, 1) := by decide +kernel
theorem dX11_isSign_13 : decode cX11_isSign 13 = .ok (.bipush 41, 2) := by decide +kernel
theorem dX11_isSign_15 : decode cX11_isSign 15 = .ok (.if_icmp .eq 51, 3) := by decide +kernel
theorem dX11_isSign_18 : decode cX11_isSign 18 = .ok (.iload_n 0, 1) := by decide +kernel
theorem dX11_isSign_19 : decode cX11_isSign 19 = .ok (.bipush 60, 2) := by decide +kernel
theorem dX11_isSign_21 : decode cX11_isSign 21 = .ok (.if_icmp .eq 45, 3) := by decide +kernel
theorem dX11_isSign_24 : decode cX11_isSign 24 = .ok (.iload_n 0, 1) := by decide +kernel
theorem dX11_isSign_25 : decode cX11_isSign 25 = .ok (.bipush 62, 2) := by decide +kernel
theorem dX11_isSign_27 : decode cX11_isSign 27 = .ok (.if_icmp .eq 39, 3) := by decide +kernel
theorem dX11_isSign_30 : decode cX11_isSign 30 = .ok (.iload_n 0, 1) := by decide +kernel
theorem dX11_isSign_31 : decode cX11_isSign 31 = .ok (.bipush 61, 2) := by decide +kernel
theorem dX11_isSign_33 : decode cX11_isSign 33 = .ok (.if_icmp .eq 33, 3) := by decide +kernel
theorem dX11_isSign_36 : decode cX11_isSign 36 = .ok (.iload_n 0, 1) := by decide +kernel
theorem dX11_isSign_37 : decode cX11_isSign 37 = .ok (.bipush 43, 2) := by decide +kernel
theorem dX11_isSign_39 : decode cX11_isSign 39 = .ok (.if_icmp .eq 27, 3) := by decide +kernel
theorem dX11_isSign_42 : decode cX11_isSign 42 = .ok (.iload_n 0, 1) := by decide +kernel
theorem dX11_isSign_43 : decode cX11_isSign 43 = .ok (.bipush 45, 2) := by decide +kernel
theorem dX11_isSign_45 : decode cX11_isSign 45 = .ok (.if_icmp .eq 21, 3) := by decide +kernel
theorem dX11_isSign_48 : decode cX11_isSign 48 = .ok (.iload_n 0, 1) := by decide +kernel
theorem dX11_isSign_49 : decode cX11_isSign 49 = .ok (.bipush 42, 2) := by decide +kernel
theorem dX11_isSign_51 : decode cX11_isSign 51 = .ok (.if_icmp .eq 15, 3) := by decide +kernel
theorem dX11_isSign_54 : decode cX11_isSign 54 = .ok (.iload_n 0, 1) := by decide +kernel
theorem dX11_isSign_55 : decode cX11_isSign 55 = .ok (.bipush 47, 2) := by decide +kernel
theorem dX11_isSign_57 : decode cX11_isSign 57 = .ok (.if_icmp .eq 9, 3) := by decide +kernel
theorem dX11_isSign_60 : decode cX11_isSign 60 = .ok (.iload_n 0, 1) := by decide +kernel
theorem dX11_isSign_61 : decode cX11_isSign 61 = .ok (.bipush 37, 2) := by decide +kernel
theorem dX11_isSign_63 : decode cX11_isSign 63 = .ok (.if_icmp .ne 7, 3) := by decide +kernel
theorem dX11_isSign_66 : decode cX11_isSign 66 = .ok (.iconst 1, 1) := by decide +kernel
theorem dX11_isSign_67 : decode cX11_isSign 67 = .ok (.goto 4, 3) := by decide +kernel
theorem dX11_isSign_70 : decode cX11_isSign 70 = .ok (.iconst 0, 1) := by decide +kernel
theorem dX11_isSign_71 : decode cX11_isSign 71 = .ok (.ireturn, 1) := by decide +kernel
theorem dX11_isWord_0 : decode cX11_isWord 0 = .ok (.aload_n 0, 1) := by decide +kernel
theorem dX11_isWord_1 : decode cX11_isWord 1 = .ok (.getfield 215, 3) := by decide +kernel
theorem dX11_isWord_4 : decode cX11_isWord 4 = .ok (.iconst 3, 1) := by decide +kernel
theorem dX11_isWord_5 : decode cX11_isWord 5 = .ok (.if_icmp .ne 16, 3) := by decide +kernel
theorem dX11_isWord_8 : decode cX11_isWord 8 = .ok (.aload_n 0, 1) := by decide +kernel
theorem dX11_isWord_9 : decode cX11_isWord 9 = .ok (.getfield 222, 3) := by decide +kernel
theorem dX11_isWord_12 : decode cX11_isWord 12 = .ok (.lload_n 1, 1) := by decide +kernel
theorem dX11_isWord_13 : decode cX11_isWord 13 = .ok (.lcmp, 1) := by decide +kernel
theorem dX11_isWord_14 : decode cX11_isWord 14 = .ok (.ifCond .ne 7, 3) := by decide +kernel
theorem dX11_isWord_17 : decode cX11_isWord 17 = .ok (.iconst 1, 1) := by decide +kernel
theorem dX11_isWord_18 : decode cX11_isWord 18 = .ok (.goto 4, 3) := by decide +kernel
theorem dX11_isWord_21 : decode cX11_isWord 21 = .ok (.iconst 0, 1) := by decide +kernel
theorem dX11_isWord_22 : decode cX11_isWord 22 = .ok (.ireturn, 1) := by decide +kernel
theorem dX11_isFull_0 : decode cX11_isFull 0 = .ok (.aload_n 0, 1) := by decide +kernel
theorem dX11_isFull_1 : decode cX11_isFull 1 = .ok (.ldc2_w 161, 3) := by decide +kernel
theorem dX11_isFull_4 : decode cX11_isFull 4 = .ok (.invokevirtual 253, 3) := by decide +kernel
theorem dX11_isFull_7 : decode cX11_isFull 7 = .ok (.ifCond .eq 22, 3) := by decide +kernel
theorem dX11_isFull_10 : decode cX11_isFull 10 = .ok (.aload_n 0, 1) := by decide +kernel
theorem dX11_isFull_11 : decode cX11_isFull 11 = .ok (.getfield 20, 3) := by decide +kernel
theorem dX11_isFull_14 : decode cX11_isFull 14 = .ok (.aload_n 0, 1) := by decide +kernel
theorem dX11_isFull_15 : decode cX11_isFull 15 = .ok (.getfield 264, 3) := by decide +kernel
theorem dX11_isFull_18 : decode cX11_isFull 18 = .ok (.iaload, 1) := by decide +kernel
theorem dX11_isFull_19 : decode cX11_isFull 19 = .ok (.iconst 3, 1) := by decide +kernel
theorem dX11_isFull_20 : decode cX11_isFull 20 = .ok (.if_icmp .ne 7, 3) := by decide +kernel
theorem dX11_isFull_23 : decode cX11_isFull 23 = .ok (.iconst 1, 1) := by decide +kernel
theorem dX11_isFull_24 : decode cX11_isFull 24 = .ok (.goto 4, 3) := by decide +kernel
theorem dX11_isFull_27 : decode cX11_isFull 27 = .ok (.iconst 0, 1) := by decide +kernel
theorem dX11_isFull_28 : decode cX11_isFull 28 = .ok (.ireturn, 1) := by decide +kernel
theorem dX11_isFull_29 : decode cX11_isFull 29 = .ok (.aload_n 0, 1) := by decide +kernel
theorem dX11_isFull_30 : decode cX11_isFull 30 = .ok (.ldc2_w 163, 3) := by decide +kernel
theorem dX11_isFull_33 : decode cX11_isFull 33 = .ok (.invokevirtual 253, 3) := by decide +kernel
theorem dX11_isFull_36 : decode cX11_isFull 36 = .ok (.ifCond .eq 22, 3) := by decide +kernel
theorem dX11_isFull_39 : decode cX11_isFull 39 = .ok (.aload_n 0, 1) := by decide +kernel
theorem dX11_isFull_40 : decode cX11_isFull 40 = .ok (.getfield 24, 3) := by decide +kernel
theorem dX11_isFull_43 : decode cX11_isFull 43 = .ok (.aload_n 0, 1) := by decide +kernel
theorem dX11_isFull_44 : decode cX11_isFull 44 = .ok (.getfield 264, 3) := by decide +kernel
theorem dX11_isFull_47 : decode cX11_isFull 47 = .ok (.iaload, 1) := by decide +kernel
theorem dX11_isFull_48 : decode cX11_isFull 48 = .ok (.iconst 4, 1) := by decide +kernel
theorem dX11_isFull_49 : decode cX11_isFull 49 = .ok (.if_icmp .ne 7, 3) := by decide +kernel
theorem dX11_isFull_52 : decode cX11_isFull 52 = .ok (.iconst 1, 1) := by decide +kernel
theorem dX11_isFull_53 : decode cX11_isFull 53 = .ok (.goto 4, 3) := by decide +kernel
theorem dX11_isFull_56 : decode cX11_isFull 56 = .ok (.iconst 0, 1) := by decide +kernel
theorem dX11_isFull_57 : decode cX11_isFull 57 = .ok (.ireturn, 1) := by decide +kernel
theorem dX11_isFull_58 : decode cX11_isFull 58 = .ok (.aload_n 0, 1) := by decide +kernel
theorem dX11_isFull_59 : decode cX11_isFull 59 = .ok (.ldc2_w 173, 3) := by decide +kernel
theorem dX11_isFull_62 : decode cX11_isFull 62 = .ok (.invokevirtual 253, 3) := by decide +kernel
theorem dX11_isFull_65 : decode cX11_isFull 65 = .ok (.ifCond .eq 23, 3) := by decide +kernel
theorem dX11_isFull_68 : decode cX11_isFull 68 = .ok (.aload_n 0, 1) := by decide +kernel
theorem dX11_isFull_69 : decode cX11_isFull 69 = .ok (.getfield 27, 3) := by decide +kernel
theorem dX11_isFull_72 : decode cX11_isFull 72 = .ok (.aload_n 0, 1) := by decide +kernel
theorem dX11_isFull_73 : decode cX11_isFull 73 = .ok (.getfield 264, 3) := by decide +kernel
theorem dX11_isFull_76 : decode cX11_isFull 76 = .ok (.iaload, 1) := by decide +kernel
theorem dX11_isFull_77 : decode cX11_isFull 77 = .ok (.bipush 8, 2) := by decide +kernel
theorem dX11_isFull_79 : decode cX11_isFull 79 = .ok (.if_icmp .ne 7, 3) := by decide +kernel
theorem dX11_isFull_82 : decode cX11_isFull 82 = .ok (.iconst 1, 1) := by decide +kernel
theorem dX11_isFull_83 : decode cX11_isFull 83 = .ok (.goto 4, 3) := by decide +kernel
theorem dX11_isFull_86 : decode cX11_isFull 86 = .ok (.iconst 0, 1) := by decide +kernel
theorem dX11_isFull_87 : decode cX11_isFull 87 = .ok (.ireturn, 1) := by decide +kernel
theorem dX11_isFull_88 : decode cX11_isFull 88 = .ok (.aload_n 0, 1) := by decide +kernel
theorem dX11_isFull_89 : decode cX11_isFull 89 = .ok (.ldc2_w 181, 3) := by decide +kernel
theorem dX11_isFull_92 : decode cX11_isFull 92 = .ok (.invokevirtual 253, 3) := by decide +kernel
theorem dX11_isFull_95 : decode cX11_isFull 95 = .ok (.ifCond .eq 23, 3) := by decide +kernel
theorem dX11_isFull_98 : decode cX11_isFull 98 = .ok (.aload_n 0, 1) := by decide +kernel
theorem dX11_isFull_99 : decode cX11_isFull 99 = .ok (.getfield 30, 3) := by decide +kernel
theorem dX11_isFull_102 : decode cX11_isFull 102 = .ok (.aload_n 0, 1) := by decide +kernel
theorem dX11_isFull_103 : decode cX11_isFull 103 = .ok (.getfield 264, 3) := by decide +kernel
theorem dX11_isFull_106 : decode cX11_isFull 106 = .ok (.iaload, 1) := by decide +kernel
theorem dX11_isFull_107 : decode cX11_isFull 107 = .ok (.bipush 12, 2) := by decide +kernel
theorem dX11_isFull_109 : decode cX11_isFull 109 = .ok (.if_icmp .ne 7, 3) := by decide +kernel
theorem dX11_isFull_112 : decode cX11_isFull 112 = .ok (.iconst 1, 1) := by decide +kernel
theorem dX11_isFull_113 : decode cX11_isFull 113 = .ok (.goto 4, 3) := by decide +kernel
theorem dX11_isFull_116 : decode cX11_isFull 116 = .ok (.iconst 0, 1) := by decide +kernel
theorem dX11_isFull_117 : decode cX11_isFull 117 = .ok (.ireturn, 1) := by decide +kernel
theorem dX11_isFull_118 : decode cX11_isFull 118 = .ok (.aload_n 0, 1) := by decide +kernel
theorem dX11_isFull_119 : decode cX11_isFull 119 = .ok (.ldc2_w 183, 3) := by decide +kernel
theorem dX11_isFull_122 : decode cX11_isFull 122 = .ok (.invokevirtual 253, 3) := by decide +kernel
theorem dX11_isFull_125 : decode cX11_isFull 125 = .ok (.ifCond .eq 23, 3) := by decide +kernel
theorem dX11_isFull_128 : decode cX11_isFull 128 = .ok (.aload_n 0, 1) := by decide +kernel
theorem dX11_isFull_129 : decode cX11_isFull 129 = .ok (.getfield 33, 3) := by decide +kernel
theorem dX11_isFull_132 : decode cX11_isFull 132 = .ok (.aload_n 0, 1) := by decide +kernel
theorem dX11_isFull_133 : decode cX11_isFull 133 = .ok (.getfield 264, 3) := by decide +kernel
theorem dX11_isFull_136 : decode cX11_isFull 136 = .ok (.iaload, 1) := by decide +kernel
theorem dX11_isFull_137 : decode cX11_isFull 137 = .ok (.bipush 6, 2) := by decide +kernel
theorem dX11_isFull_139 : decode cX11_isFull 139 = .ok (.if_icmp .ne 7, 3) := by decide +kernel
theorem dX11_isFull_142 : decode cX11_isFull 142 = .ok (.iconst 1, 1) := by decide +kernel
theorem dX11_isFull_143 : decode cX11_isFull 143 = .ok (.goto 4, 3) := by decide +kernel
theorem dX11_isFull_146 : decode cX11_isFull 146 = .ok (.iconst 0, 1) := by decide +kernel
theorem dX11_isFull_147 : decode cX11_isFull 147 = .ok (.ireturn, 1) := by decide +kernel
theorem dX11_isFull_148 : decode cX11_isFull 148 = .ok (.aload_n 0, 1) := by decide +kernel
theorem dX11_isFull_149 : decode cX11_isFull 149 = .ok (.ldc2_w 185, 3) := by decide +kernel
theorem dX11_isFull_152 : decode cX11_isFull 152 = .ok (.invokevirtual 253, 3) := by decide +kernel
theorem dX11_isFull_155 : decode cX11_isFull 155 = .ok (.ifCond .eq 13, 3) := by decide +kernel
theorem dX11_isFull_158 : decode cX11_isFull 158 = .ok (.aload_n 0, 1) := by decide +kernel
theorem dX11_isFull_159 : decode cX11_isFull 159 = .ok (.getfield 78, 3) := by decide +kernel
theorem dX11_isFull_162 : decode cX11_isFull 162 = .ok (.aload_n 0, 1) := by decide +kernel
theorem dX11_isFull_163 : decode cX11_isFull 163 = .ok (.getfield 264, 3) := by decide +kernel
theorem dX11_isFull_166 : decode cX11_isFull 166 = .ok (.baload, 1) := by decide +kernel
theorem dX11_isFull_167 : decode cX11_isFull 167 = .ok (.ireturn, 1) := by decide +kernel
theorem dX11_isFull_168 : decode cX11_isFull 168 = .ok (.aload_n 0, 1) := by decide +kernel
theorem dX11_isFull_169 : decode cX11_isFull 169 = .ok (.ldc2_w 187, 3) := by decide +kernel
theorem dX11_isFull_172 : decode cX11_isFull 172 = .ok (.invokevirtual 253, 3) := by decide +kernel
theorem dX11_isFull_175 : decode cX11_isFull 175 = .ok (.ifCond .eq 13, 3) := by decide +kernel
theorem dX11_isFull_178 : decode cX11_isFull 178 = .ok (.aload_n 0, 1) := by decide +kernel
theorem dX11_isFull_179 : decode cX11_isFull 179 = .ok (.getfield 82, 3) := by decide +kernel
theorem dX11_isFull_182 : decode cX11_isFull 182 = .ok (.aload_n 0, 1) := by decide +kernel
theorem dX11_isFull_183 : decode cX11_isFull 183 = .ok (.getfield 264, 3) := by decide +kernel
theorem dX11_isFull_186 : decode cX11_isFull 186 = .ok (.baload, 1) := by decide +kernel
theorem dX11_isFull_187 : decode cX11_isFull 187 = .ok (.ireturn, 1) := by decide +kernel
theorem dX11_isFull_188 : decode cX11_isFull 188 = .ok (.aload_n 0, 1) := by decide +kernel
theorem dX11_isFull_189 : decode cX11_isFull 189 = .ok (.ldc2_w 189, 3) := by decide +kernel
theorem dX11_isFull_192 : decode cX11_isFull 192 = .ok (.invokevirtual 253, 3) := by decide +kernel
theorem dX11_isFull_195 : decode cX11_isFull 195 = .ok (.ifCond .eq 15, 3) := by decide +kernel
theorem dX11_isFull_198 : decode cX11_isFull 198 = .ok (.aload_n 0, 1) := by decide +kernel
theorem dX11_isFull_199 : decode cX11_isFull 199 = .ok (.getfield 85, 3) := by decide +kernel
theorem dX11_isFull_202 : decode cX11_isFull 202 = .ok (.aload_n 0, 1) := by decide +kernel
theorem dX11_isFull_203 : decode cX11_isFull 203 = .ok (.getfield 264, 3) := by decide +kernel
theorem dX11_isFull_206 : decode cX11_isFull 206 = .ok (.baload, 1) := by decide +kernel
theorem dX11_isFull_207 : decode cX11_isFull 207 = .ok (.ifCond .eq 7, 3) := by decide +kernel
theorem dX11_isFull_210 : decode cX11_isFull 210 = .ok (.iconst 1, 1) := by decide +kernel
theorem dX11_isFull_211 : decode cX11_isFull 211 = .ok (.goto 4, 3) := by decide +kernel
theorem dX11_isFull_214 : decode cX11_isFull 214 = .ok (.iconst 0, 1) := by decide +kernel
theorem dX11_isFull_215 : decode cX11_isFull 215 = .ok (.ireturn, 1) := by decide +kernel
theorem dX11_wordHere_0 : decode cX11_wordHere 0 = .ok (.aload_n 0, 1) := by decide +kernel
theorem dX11_wordHere_1 : decode cX11_wordHere 1 = .ok (.ldc2_w 165, 3) := by decide +kernel
theorem dX11_wordHere_4 : decode cX11_wordHere 4 = .ok (.invokevirtual 253, 3) := by decide +kernel
theorem dX11_wordHere_7 : decode cX11_wordHere 7 = .ok (.ifCond .eq 6, 3) := by decide +kernel
theorem dX11_wordHere_10 : decode cX11_wordHere 10 = .ok (.bipush 115, 2) := by decide +kernel
theorem dX11_wordHere_12 : decode cX11_wordHere 12 = .ok (.ireturn, 1) := by decide +kernel
theorem dX11_wordHere_13 : decode cX11_wordHere 13 = .ok (.aload_n 0, 1) := by decide +kernel
theorem dX11_wordHere_14 : decode cX11_wordHere 14 = .ok (.ldc2_w 191, 3) := by decide +kernel
theorem dX11_wordHere_17 : decode cX11_wordHere 17 = .ok (.invokevirtual 253, 3) := by decide +kernel
theorem dX11_wordHere_20 : decode cX11_wordHere 20 = .ok (.ifCond .eq 6, 3) := by decide +kernel
theorem dX11_wordHere_23 : decode cX11_wordHere 23 = .ok (.bipush 121, 2) := by decide +kernel
theorem dX11_wordHere_25 : decode cX11_wordHere 25 = .ok (.ireturn, 1) := by decide +kernel
theorem dX11_wordHere_26 : decode cX11_wordHere 26 = .ok (.aload_n 0, 1) := by decide +kernel
theorem dX11_wordHere_27 : decode cX11_wordHere 27 = .ok (.ldc2_w 193, 3) := by decide +kernel
theorem dX11_wordHere_30 : decode cX11_wordHere 30 = .ok (.invokevirtual 253, 3) := by decide +kernel
theorem dX11_wordHere_33 : decode cX11_wordHere 33 = .ok (.ifCond .eq 6, 3) := by decide +kernel
theorem dX11_wordHere_36 : decode cX11_wordHere 36 = .ok (.bipush 101, 2) := by decide +kernel
theorem dX11_wordHere_38 : decode cX11_wordHere 38 = .ok (.ireturn, 1) := by decide +kernel
theorem dX11_wordHere_39 : decode cX11_wordHere 39 = .ok (.aload_n 0, 1) := by decide +kernel
theorem dX11_wordHere_40 : decode cX11_wordHere 40 = .ok (.ldc2_w 195, 3) := by decide +kernel
theorem dX11_wordHere_43 : decode cX11_wordHere 43 = .ok (.invokevirtual 253, 3) := by decide +kernel
theorem dX11_wordHere_46 : decode cX11_wordHere 46 = .ok (.ifCond .eq 6, 3) := by decide +kernel
theorem dX11_wordHere_49 : decode cX11_wordHere 49 = .ok (.bipush 99, 2) := by decide +kernel
theorem dX11_wordHere_51 : decode cX11_wordHere 51 = .ok (.ireturn, 1) := by decide +kernel
theorem dX11_wordHere_52 : decode cX11_wordHere 52 = .ok (.aload_n 0, 1) := by decide +kernel
theorem dX11_wordHere_53 : decode cX11_wordHere 53 = .ok (.ldc2_w 175, 3) := by decide +kernel
theorem dX11_wordHere_56 : decode cX11_wordHere 56 = .ok (.invokevirtual 253, 3) := by decide +kernel
theorem dX11_wordHere_59 : decode cX11_wordHere 59 = .ok (.ifCond .eq 6, 3) := by decide +kernel
theorem dX11_wordHere_62 : decode cX11_wordHere 62 = .ok (.bipush 122, 2) := by decide +kernel
theorem dX11_wordHere_64 : decode cX11_wordHere 64 = .ok (.ireturn, 1) := by decide +kernel
theorem dX11_wordHere_65 : decode cX11_wordHere 65 = .ok (.aload_n 0, 1) := by decide +kernel
theorem dX11_wordHere_66 : decode cX11_wordHere 66 = .ok (.ldc2_w 177, 3) := by decide +kernel
theorem dX11_wordHere_69 : decode cX11_wordHere 69 = .ok (.invokevirtual 253, 3) := by decide +kernel
theorem dX11_wordHere_72 : decode cX11_wordHere 72 = .ok (.ifCond .eq 6, 3) := by decide +kernel
theorem dX11_wordHere_75 : decode cX11_wordHere 75 = .ok (.bipush 119, 2) := by decide +kernel
theorem dX11_wordHere_77 : decode cX11_wordHere 77 = .ok (.ireturn, 1) := by decide +kernel
theorem dX11_wordHere_78 : decode cX11_wordHere 78 = .ok (.aload_n 0, 1) := by decide +kernel
theorem dX11_wordHere_79 : decode cX11_wordHere 79 = .ok (.ldc2_w 197, 3) := by decide +kernel
theorem dX11_wordHere_82 : decode cX11_wordHere 82 = .ok (.invokevirtual 253, 3) := by decide +kernel
theorem dX11_wordHere_85 : decode cX11_wordHere 85 = .ok (.ifCond .eq 8, 3) := by decide +kernel
theorem dX11_wordHere_88 : decode cX11_wordHere 88 = .ok (.bipush 104, 2) := by decide +kernel
theorem dX11_wordHere_90 : decode cX11_wordHere 90 = .ok (.goto 4, 3) := by decide +kernel
theorem dX11_wordHere_93 : decode cX11_wordHere 93 = .ok (.iconst 0, 1) := by decide +kernel
theorem dX11_wordHere_94 : decode cX11_wordHere 94 = .ok (.ireturn, 1) := by decide +kernel
set_option maxRecDepth 100000 in
theorem m_X11_isGood (l : Launch) (D : va_G) (cT : Nat → ClassId) (T : Nat → Option Nat) (q : Nat → Int) (hT : tokm T) (hq : qkm q) (a0 : Nat) (t0 : T a0 = some 0) : th_Met l D cT T (km q) yX11_isGood cX11_isGood 1 (some .boolean) (rmk 0 0) [.ref a0] (th_R T (some (.inl (0, 1)))) [] := by
  refine th_start (by decide) (Nat.le_of_ble_eq_true rfl) ?_
  intro p e s m below meth c ls S hK hH hr hlocks hnm hl
  have hx := S.1
  have hb := S.2.1
  have hl : lv_has ls 1 [(0, .ref a0)] := hl
  have J12_s0_0 : ∀ (H : Heap) (locs : List Loc) (ls : Array Slot), th_H D cT T (km q) H → va_S (th_A T []) s.heap H locs → lv_has ls 1 [] → W p l e (rmk 0 0) s m [.ref a0].toArray below meth c H locs 0 0 (MQ below (th_Q D cT T (km q) (th_R T (some (.inl (0, 1)))) []) [.ref a0].toArray s 0 0 (th_A T [])) (F0 m 12 ls [.int 0]) := by
    intro H locs ls hH hS hl
    exact th_zret S hK hH hS hr hlocks (iv_w (iv_c (by decide) : IV 0 0 0) (by decide)) (th_R.i (iv_w (iv_c (by decide) : IV 0 0 0) (by decide))) dX11_isGood_12
  have J12_s0_1 : ∀ (H : Heap) (locs : List Loc) (ls : Array Slot), th_H D cT T (km q) H → va_S (th_A T []) s.heap H locs → lv_has ls 1 [] → W p l e (rmk 0 0) s m [.ref a0].toArray below meth c H locs 0 0 (MQ below (th_Q D cT T (km q) (th_R T (some (.inl (0, 1)))) []) [.ref a0].toArray s 0 0 (th_A T [])) (F0 m 12 ls [.int 1]) := by
    intro H locs ls hH hS hl
    exact th_zret S hK hH hS hr hlocks (iv_w (iv_c (by decide) : IV 1 1 1) (by decide)) (th_R.i (iv_w (iv_c (by decide) : IV 1 1 1) (by decide))) dX11_isGood_12
  have J0 : ∀ (H : Heap) (locs : List Loc) (ls : Array Slot), th_H D cT T (km q) H → va_S (th_A T []) s.heap H locs → lv_has ls 1 [(0, .ref a0)] → W p l e (rmk 0 0) s m [.ref a0].toArray below meth c H locs 0 0 (MQ below (th_Q D cT T (km q) (th_R T (some (.inl (0, 1)))) []) [.ref a0].toArray s 0 0 (th_A T [])) (F0 m 0 ls []) := by
    intro H locs ls hH hS hl
    refine lv_aload_n hx hb dX11_isGood_0 rfl (lv_at hl 0 rfl) ?_
    refine th_get S hK hH inG11 t0 km_0 rfl 4 (by decide) gm_1234 rfl rfl dX11_isGood_1 (fun v1 hv1 fv1 => ?_)
    obtain ⟨x2, rfl, ix2⟩ := th_V.int hv1
    have kx2a : q 30 ≤ x2.toInt := ix2.1
    have kx2b : x2.toInt ≤ q 30 := ix2.2
    have ix2 : IV x2 0 5 := iv_w ix2 (qkm_30 hq)
    refine lv_if_ne (tgt := 11) hx hb dX11_isGood_4 (by decide) (fun c3 => ?_) (fun c3 => ?_)
    · skip
      have rlc3 : x2.toInt ≠ (0 : Int) := iv_ne c3
      have ir4 : IV x2 1 5 := iv_cutL ix2 (iv_c (by decide) : IV 0 0 0) c3 (by decide)
      have ir4a := ir4.1; have ir4b := ir4.2
      refine lv_iconst (v := 0) hx hb dX11_isGood_11 (by decide) ?_
      exact J12_s0_0 H locs ls  hH hS (lv_sub hl [] rfl)
    · skip
      have rlc3 : x2.toInt = (0 : Int) := congrArg Int32.toInt c3
      have ir5 : IV x2 0 0 := iv_eL c3 (iv_c (by decide) : IV 0 0 0)
      have ir5a := ir5.1; have ir5b := ir5.2
      refine lv_iconst (v := 1) hx hb dX11_isGood_7 (by decide) ?_
      refine lv_goto (tgt := 12) hx hb dX11_isGood_8 (by decide) ?_
      exact J12_s0_1 H locs ls  hH hS (lv_sub hl [] rfl)
  exact J0 s.heap [] ls hH va_S.rf hl

set_option maxRecDepth 100000 in
theorem m_X11_isKept (l : Launch) (D : va_G) (cT : Nat → ClassId) (T : Nat → Option Nat) (q : Nat → Int) (hT : tokm T) (hq : qkm q) (y0 : Int64) : th_Met l D cT T (km q) yX11_isKept cX11_isKept 3 (some .boolean) (rmk 0 0) [.long y0] (th_R T (some (.inl (0, 1)))) [] := by
  refine th_start (by decide) (Nat.le_of_ble_eq_true rfl) ?_
  intro p e s m below meth c ls S hK hH hr hlocks hnm hl
  have hx := S.1
  have hb := S.2.1
  have hl : lv_has ls 3 [(0, .long y0)] := hl
  have J191_s0_0 : ∀ (H : Heap) (locs : List Loc) (ls : Array Slot), th_H D cT T (km q) H → va_S (th_A T []) s.heap H locs → lv_has ls 3 [] → W p l e (rmk 0 0) s m [.long y0].toArray below meth c H locs 0 0 (MQ below (th_Q D cT T (km q) (th_R T (some (.inl (0, 1)))) []) [.long y0].toArray s 0 0 (th_A T [])) (F0 m 191 ls [.int 0]) := by
    intro H locs ls hH hS hl
    exact th_zret S hK hH hS hr hlocks (iv_w (iv_c (by decide) : IV 0 0 0) (by decide)) (th_R.i (iv_w (iv_c (by decide) : IV 0 0 0) (by decide))) dX11_isKept_191
  have J191_s0_1 : ∀ (H : Heap) (locs : List Loc) (ls : Array Slot), th_H D cT T (km q) H → va_S (th_A T []) s.heap H locs → lv_has ls 3 [] → W p l e (rmk 0 0) s m [.long y0].toArray below meth c H locs 0 0 (MQ below (th_Q D cT T (km q) (th_R T (some (.inl (0, 1)))) []) [.long y0].toArray s 0 0 (th_A T [])) (F0 m 191 ls [.int 1]) := by
    intro H locs ls hH hS hl
    exact th_zret S hK hH hS hr hlocks (iv_w (iv_c (by decide) : IV 1 1 1) (by decide)) (th_R.i (iv_w (iv_c (by decide) : IV 1 1 1) (by decide))) dX11_isKept_191
  have J186 : ∀ (H : Heap) (locs : List Loc) (ls : Array Slot), th_H D cT T (km q) H → va_S (th_A T []) s.heap H locs → lv_has ls 3 [] → W p l e (rmk 0 0) s m [.long y0].toArray below meth c H locs 0 0 (MQ below (th_Q D cT T (km q) (th_R T (some (.inl (0, 1)))) []) [.long y0].toArray s 0 0 (th_A T [])) (F0 m 186 ls []) := by
    intro H locs ls hH hS hl
    refine lv_iconst (v := 1) hx hb dX11_isKept_186 (by decide) ?_
    refine lv_goto (tgt := 191) hx hb dX11_isKept_187 (by decide) ?_
    exact J191_s0_1 H locs ls  hH hS (lv_sub hl [] rfl)
  have J93_s0_0 : ∀ (H : Heap) (locs : List Loc) (ls : Array Slot), th_H D cT T (km q) H → va_S (th_A T []) s.heap H locs → lv_has ls 3 [(0, .long y0)] → W p l e (rmk 0 0) s m [.long y0].toArray below meth c H locs 0 0 (MQ below (th_Q D cT T (km q) (th_R T (some (.inl (0, 1)))) []) [.long y0].toArray s 0 0 (th_A T [])) (F0 m 93 ls [.int 0]) := by
    intro H locs ls hH hS hl
    refine lv_istore_n (lv' := [(2, .int 0), (0, .long y0)]) hx hb dX11_isKept_93 rfl hl (by decide) rfl (fun ls hl => ?_)
    refine lv_iload_n hx hb dX11_isKept_94 rfl (lv_at hl 0 rfl) ?_
    refine lv_if_ne (tgt := 186) hx hb dX11_isKept_95 (by decide) (fun c1 => ?_) (fun c1 => ?_)
    · skip
      have rlc1 : (0 : Int) ≠ (0 : Int) := iv_ne c1
      exact absurd (iv_eqc (iv_c (by decide) : IV 0 0 0) (iv_c (by decide) : IV 0 0 0)) c1
    · skip
      have rlc1 : (0 : Int) = (0 : Int) := congrArg Int32.toInt c1
      refine lv_lload_n hx hb dX11_isKept_98 rfl (lv_at hl 1 rfl) ?_
      refine lv_ldc2 (v := 108230800074098) hx hb S.2.2.2.1 (S.2.2.2.2 _ gm_1467) dX11_isKept_99 ?_
      refine W.lcmp hx hb dX11_isKept_102 ?_
      refine lv_topi (fun x2 ex2 => ?_)
      have ix2 := iv_top x2
      have ax2 : x2.toInt = 0 → y0.toInt = (108230800074098 : Int) := lc_eq ex2
      have bx2 : x2.toInt ≠ 0 → y0.toInt ≠ (108230800074098 : Int) := lc_ne ex2
      refine lv_if_eq (tgt := 186) hx hb dX11_isKept_103 (by decide) (fun c3 => ?_) (fun c3 => ?_)
      · skip
        have rlc3 : x2.toInt = (0 : Int) := congrArg Int32.toInt c3
        have ir4 : IV x2 0 0 := iv_eL c3 (iv_c (by decide) : IV 0 0 0)
        have ir4a := ir4.1; have ir4b := ir4.2
        exact J186 H locs ls  hH hS (lv_sub hl [] rfl)
      · skip
        have rlc3 : x2.toInt ≠ (0 : Int) := iv_ne c3
        refine lv_lload_n hx hb dX11_isKept_106 rfl (lv_at hl 1 rfl) ?_
        refine lv_ldc2 (v := 499851162725) hx hb S.2.2.2.1 (S.2.2.2.2 _ gm_1468) dX11_isKept_107 ?_
        refine W.lcmp hx hb dX11_isKept_110 ?_
        refine lv_topi (fun x5 ex5 => ?_)
        have ix5 := iv_top x5
        have ax5 : x5.toInt = 0 → y0.toInt = (499851162725 : Int) := lc_eq ex5
        have bx5 : x5.toInt ≠ 0 → y0.toInt ≠ (499851162725 : Int) := lc_ne ex5
        refine lv_if_eq (tgt := 186) hx hb dX11_isKept_111 (by decide) (fun c6 => ?_) (fun c6 => ?_)
        · skip
          have rlc6 : x5.toInt = (0 : Int) := congrArg Int32.toInt c6
          have ir7 : IV x5 0 0 := iv_eL c6 (iv_c (by decide) : IV 0 0 0)
          have ir7a := ir7.1; have ir7b := ir7.2
          exact J186 H locs ls  hH hS (lv_sub hl [] rfl)
        · skip
          have rlc6 : x5.toInt ≠ (0 : Int) := iv_ne c6
          refine lv_lload_n hx hb dX11_isKept_114 rfl (lv_at hl 1 rfl) ?_
          refine lv_ldc2 (v := 131294708393330) hx hb S.2.2.2.1 (S.2.2.2.2 _ gm_1469) dX11_isKept_115 ?_
          refine W.lcmp hx hb dX11_isKept_118 ?_
          refine lv_topi (fun x8 ex8 => ?_)
          have ix8 := iv_top x8
          have ax8 : x8.toInt = 0 → y0.toInt = (131294708393330 : Int) := lc_eq ex8
          have bx8 : x8.toInt ≠ 0 → y0.toInt ≠ (131294708393330 : Int) := lc_ne ex8
          refine lv_if_eq (tgt := 186) hx hb dX11_isKept_119 (by decide) (fun c9 => ?_) (fun c9 => ?_)
          · skip
            have rlc9 : x8.toInt = (0 : Int) := congrArg Int32.toInt c9
            have ir10 : IV x8 0 0 := iv_eL c9 (iv_c (by decide) : IV 0 0 0)
            have ir10a := ir10.1; have ir10b := ir10.2
            exact J186 H locs ls  hH hS (lv_sub hl [] rfl)
          · skip
            have rlc9 : x8.toInt ≠ (0 : Int) := iv_ne c9
            refine lv_lload_n hx hb dX11_isKept_122 rfl (lv_at hl 1 rfl) ?_
            refine lv_ldc2 (v := 1685217655) hx hb S.2.2.2.1 (S.2.2.2.2 _ gm_1470) dX11_isKept_123 ?_
            refine W.lcmp hx hb dX11_isKept_126 ?_
            refine lv_topi (fun x11 ex11 => ?_)
            have ix11 := iv_top x11
            have ax11 : x11.toInt = 0 → y0.toInt = (1685217655 : Int) := lc_eq ex11
            have bx11 : x11.toInt ≠ 0 → y0.toInt ≠ (1685217655 : Int) := lc_ne ex11
            refine lv_if_eq (tgt := 186) hx hb dX11_isKept_127 (by decide) (fun c12 => ?_) (fun c12 => ?_)
            · skip
              have rlc12 : x11.toInt = (0 : Int) := congrArg Int32.toInt c12
              have ir13 : IV x11 0 0 := iv_eL c12 (iv_c (by decide) : IV 0 0 0)
              have ir13a := ir13.1; have ir13b := ir13.2
              exact J186 H locs ls  hH hS (lv_sub hl [] rfl)
            · skip
              have rlc12 : x11.toInt ≠ (0 : Int) := iv_ne c12
              refine lv_lload_n hx hb dX11_isKept_130 rfl (lv_at hl 1 rfl) ?_
              refine lv_ldc2 (v := 2036687218) hx hb S.2.2.2.1 (S.2.2.2.2 _ gm_1471) dX11_isKept_131 ?_
              refine W.lcmp hx hb dX11_isKept_134 ?_
              refine lv_topi (fun x14 ex14 => ?_)
              have ix14 := iv_top x14
              have ax14 : x14.toInt = 0 → y0.toInt = (2036687218 : Int) := lc_eq ex14
              have bx14 : x14.toInt ≠ 0 → y0.toInt ≠ (2036687218 : Int) := lc_ne ex14
              refine lv_if_eq (tgt := 186) hx hb dX11_isKept_135 (by decide) (fun c15 => ?_) (fun c15 => ?_)
              · skip
                have rlc15 : x14.toInt = (0 : Int) := congrArg Int32.toInt c15
                have ir16 : IV x14 0 0 := iv_eL c15 (iv_c (by decide) : IV 0 0 0)
                have ir16a := ir16.1; have ir16b := ir16.2
                exact J186 H locs ls  hH hS (lv_sub hl [] rfl)
              · skip
                have rlc15 : x14.toInt ≠ (0 : Int) := iv_ne c15
                refine lv_lload_n hx hb dX11_isKept_138 rfl (lv_at hl 1 rfl) ?_
                refine lv_ldc2 (v := 435426714990) hx hb S.2.2.2.1 (S.2.2.2.2 _ gm_1472) dX11_isKept_139 ?_
                refine W.lcmp hx hb dX11_isKept_142 ?_
                refine lv_topi (fun x17 ex17 => ?_)
                have ix17 := iv_top x17
                have ax17 : x17.toInt = 0 → y0.toInt = (435426714990 : Int) := lc_eq ex17
                have bx17 : x17.toInt ≠ 0 → y0.toInt ≠ (435426714990 : Int) := lc_ne ex17
                refine lv_if_eq (tgt := 186) hx hb dX11_isKept_143 (by decide) (fun c18 => ?_) (fun c18 => ?_)
                · skip
                  have rlc18 : x17.toInt = (0 : Int) := congrArg Int32.toInt c18
                  have ir19 : IV x17 0 0 := iv_eL c18 (iv_c (by decide) : IV 0 0 0)
                  have ir19a := ir19.1; have ir19b := ir19.2
                  exact J186 H locs ls  hH hS (lv_sub hl [] rfl)
                · skip
                  have rlc18 : x17.toInt ≠ (0 : Int) := iv_ne c18
                  refine lv_lload_n hx hb dX11_isKept_146 rfl (lv_at hl 1 rfl) ?_
                  refine lv_ldc2 (v := 1668246628) hx hb S.2.2.2.1 (S.2.2.2.2 _ gm_1473) dX11_isKept_147 ?_
                  refine W.lcmp hx hb dX11_isKept_150 ?_
                  refine lv_topi (fun x20 ex20 => ?_)
                  have ix20 := iv_top x20
                  have ax20 : x20.toInt = 0 → y0.toInt = (1668246628 : Int) := lc_eq ex20
                  have bx20 : x20.toInt ≠ 0 → y0.toInt ≠ (1668246628 : Int) := lc_ne ex20
                  refine lv_if_eq (tgt := 186) hx hb dX11_isKept_151 (by decide) (fun c21 => ?_) (fun c21 => ?_)
                  · skip
                    have rlc21 : x20.toInt = (0 : Int) := congrArg Int32.toInt c21
                    have ir22 : IV x20 0 0 := iv_eL c21 (iv_c (by decide) : IV 0 0 0)
                    have ir22a := ir22.1; have ir22b := ir22.2
                    exact J186 H locs ls  hH hS (lv_sub hl [] rfl)
                  · skip
                    have rlc21 : x20.toInt ≠ (0 : Int) := iv_ne c21
                    refine lv_lload_n hx hb dX11_isKept_154 rfl (lv_at hl 1 rfl) ?_
                    refine lv_ldc2 (v := 448545973619) hx hb S.2.2.2.1 (S.2.2.2.2 _ gm_1474) dX11_isKept_155 ?_
                    refine W.lcmp hx hb dX11_isKept_158 ?_
                    refine lv_topi (fun x23 ex23 => ?_)
                    have ix23 := iv_top x23
                    have ax23 : x23.toInt = 0 → y0.toInt = (448545973619 : Int) := lc_eq ex23
                    have bx23 : x23.toInt ≠ 0 → y0.toInt ≠ (448545973619 : Int) := lc_ne ex23
                    refine lv_if_eq (tgt := 186) hx hb dX11_isKept_159 (by decide) (fun c24 => ?_) (fun c24 => ?_)
                    · skip
                      have rlc24 : x23.toInt = (0 : Int) := congrArg Int32.toInt c24
                      have ir25 : IV x23 0 0 := iv_eL c24 (iv_c (by decide) : IV 0 0 0)
                      have ir25a := ir25.1; have ir25b := ir25.2
                      exact J186 H locs ls  hH hS (lv_sub hl [] rfl)
                    · skip
                      have rlc24 : x23.toInt ≠ (0 : Int) := iv_ne c24
                      refine lv_lload_n hx hb dX11_isKept_162 rfl (lv_at hl 1 rfl) ?_
                      refine lv_ldc2 (v := 28530) hx hb S.2.2.2.1 (S.2.2.2.2 _ gm_1475) dX11_isKept_163 ?_
                      refine W.lcmp hx hb dX11_isKept_166 ?_
                      refine lv_topi (fun x26 ex26 => ?_)
                      have ix26 := iv_top x26
                      have ax26 : x26.toInt = 0 → y0.toInt = (28530 : Int) := lc_eq ex26
                      have bx26 : x26.toInt ≠ 0 → y0.toInt ≠ (28530 : Int) := lc_ne ex26
                      refine lv_if_eq (tgt := 186) hx hb dX11_isKept_167 (by decide) (fun c27 => ?_) (fun c27 => ?_)
                      · skip
                        have rlc27 : x26.toInt = (0 : Int) := congrArg Int32.toInt c27
                        have ir28 : IV x26 0 0 := iv_eL c27 (iv_c (by decide) : IV 0 0 0)
                        have ir28a := ir28.1; have ir28b := ir28.2
                        exact J186 H locs ls  hH hS (lv_sub hl [] rfl)
                      · skip
                        have rlc27 : x26.toInt ≠ (0 : Int) := iv_ne c27
                        refine lv_lload_n hx hb dX11_isKept_170 rfl (lv_at hl 1 rfl) ?_
                        refine lv_ldc2 (v := 6385252) hx hb S.2.2.2.1 (S.2.2.2.2 _ gm_1476) dX11_isKept_171 ?_
                        refine W.lcmp hx hb dX11_isKept_174 ?_
                        refine lv_topi (fun x29 ex29 => ?_)
                        have ix29 := iv_top x29
                        have ax29 : x29.toInt = 0 → y0.toInt = (6385252 : Int) := lc_eq ex29
                        have bx29 : x29.toInt ≠ 0 → y0.toInt ≠ (6385252 : Int) := lc_ne ex29
                        refine lv_if_eq (tgt := 186) hx hb dX11_isKept_175 (by decide) (fun c30 => ?_) (fun c30 => ?_)
                        · skip
                          have rlc30 : x29.toInt = (0 : Int) := congrArg Int32.toInt c30
                          have ir31 : IV x29 0 0 := iv_eL c30 (iv_c (by decide) : IV 0 0 0)
                          have ir31a := ir31.1; have ir31b := ir31.2
                          exact J186 H locs ls  hH hS (lv_sub hl [] rfl)
                        · skip
                          have rlc30 : x29.toInt ≠ (0 : Int) := iv_ne c30
                          refine lv_lload_n hx hb dX11_isKept_178 rfl (lv_at hl 1 rfl) ?_
                          refine lv_ldc2 (v := 7237492) hx hb S.2.2.2.1 (S.2.2.2.2 _ gm_1477) dX11_isKept_179 ?_
                          refine W.lcmp hx hb dX11_isKept_182 ?_
                          refine lv_topi (fun x32 ex32 => ?_)
                          have ix32 := iv_top x32
                          have ax32 : x32.toInt = 0 → y0.toInt = (7237492 : Int) := lc_eq ex32
                          have bx32 : x32.toInt ≠ 0 → y0.toInt ≠ (7237492 : Int) := lc_ne ex32
                          refine lv_if_ne (tgt := 190) hx hb dX11_isKept_183 (by decide) (fun c33 => ?_) (fun c33 => ?_)
                          · skip
                            have rlc33 : x32.toInt ≠ (0 : Int) := iv_ne c33
                            refine lv_iconst (v := 0) hx hb dX11_isKept_190 (by decide) ?_
                            exact J191_s0_0 H locs ls  hH hS (lv_sub hl [] rfl)
                          · skip
                            have rlc33 : x32.toInt = (0 : Int) := congrArg Int32.toInt c33
                            have ir34 : IV x32 0 0 := iv_eL c33 (iv_c (by decide) : IV 0 0 0)
                            have ir34a := ir34.1; have ir34b := ir34.2
                            exact J186 H locs ls  hH hS (lv_sub hl [] rfl)
  have J93_s0_1 : ∀ (H : Heap) (locs : List Loc) (ls : Array Slot), th_H D cT T (km q) H → va_S (th_A T []) s.heap H locs → lv_has ls 3 [(0, .long y0)] → W p l e (rmk 0 0) s m [.long y0].toArray below meth c H locs 0 0 (MQ below (th_Q D cT T (km q) (th_R T (some (.inl (0, 1)))) []) [.long y0].toArray s 0 0 (th_A T [])) (F0 m 93 ls [.int 1]) := by
    intro H locs ls hH hS hl
    refine lv_istore_n (lv' := [(2, .int 1), (0, .long y0)]) hx hb dX11_isKept_93 rfl hl (by decide) rfl (fun ls hl => ?_)
    refine lv_iload_n hx hb dX11_isKept_94 rfl (lv_at hl 0 rfl) ?_
    refine lv_if_ne (tgt := 186) hx hb dX11_isKept_95 (by decide) (fun c35 => ?_) (fun c35 => ?_)
    · skip
      have rlc35 : (1 : Int) ≠ (0 : Int) := iv_ne c35
      exact J186 H locs ls  hH hS (lv_sub hl [] rfl)
    · skip
      have rlc35 : (1 : Int) = (0 : Int) := congrArg Int32.toInt c35
      exfalso
      have z1 := congrArg Int32.toInt c35
      have z2 := ((iv_c (by decide) : IV 1 1 1)).1
      have z3 := ((iv_c (by decide) : IV 1 1 1)).2
      have z4 := ((iv_c (by decide) : IV 0 0 0)).1
      have z5 := ((iv_c (by decide) : IV 0 0 0)).2
      omega
  have J88 : ∀ (H : Heap) (locs : List Loc) (ls : Array Slot), th_H D cT T (km q) H → va_S (th_A T []) s.heap H locs → lv_has ls 3 [(0, .long y0)] → W p l e (rmk 0 0) s m [.long y0].toArray below meth c H locs 0 0 (MQ below (th_Q D cT T (km q) (th_R T (some (.inl (0, 1)))) []) [.long y0].toArray s 0 0 (th_A T [])) (F0 m 88 ls []) := by
    intro H locs ls hH hS hl
    refine lv_iconst (v := 1) hx hb dX11_isKept_88 (by decide) ?_
    refine lv_goto (tgt := 93) hx hb dX11_isKept_89 (by decide) ?_
    exact J93_s0_1 H locs ls  hH hS (lv_sub hl [0] rfl)
  have J0 : ∀ (H : Heap) (locs : List Loc) (ls : Array Slot), th_H D cT T (km q) H → va_S (th_A T []) s.heap H locs → lv_has ls 3 [(0, .long y0)] → W p l e (rmk 0 0) s m [.long y0].toArray below meth c H locs 0 0 (MQ below (th_Q D cT T (km q) (th_R T (some (.inl (0, 1)))) []) [.long y0].toArray s 0 0 (th_A T [])) (F0 m 0 ls []) := by
    intro H locs ls hH hS hl
    refine lv_lload_n hx hb dX11_isKept_0 rfl (lv_at hl 0 rfl) ?_
    refine lv_ldc2 (v := 1718579044) hx hb S.2.2.2.1 (S.2.2.2.2 _ gm_1456) dX11_isKept_1 ?_
    refine W.lcmp hx hb dX11_isKept_4 ?_
    refine lv_topi (fun x36 ex36 => ?_)
    have ix36 := iv_top x36
    have ax36 : x36.toInt = 0 → y0.toInt = (1718579044 : Int) := lc_eq ex36
    have bx36 : x36.toInt ≠ 0 → y0.toInt ≠ (1718579044 : Int) := lc_ne ex36
    refine lv_if_eq (tgt := 88) hx hb dX11_isKept_5 (by decide) (fun c37 => ?_) (fun c37 => ?_)
    · skip
      have rlc37 : x36.toInt = (0 : Int) := congrArg Int32.toInt c37
      have ir38 : IV x36 0 0 := iv_eL c37 (iv_c (by decide) : IV 0 0 0)
      have ir38a := ir38.1; have ir38b := ir38.2
      exact J88 H locs ls  hH hS (lv_sub hl [0] rfl)
    · skip
      have rlc37 : x36.toInt ≠ (0 : Int) := iv_ne c37
      refine lv_lload_n hx hb dX11_isKept_8 rfl (lv_at hl 0 rfl) ?_
      refine lv_ldc2 (v := 7168368) hx hb S.2.2.2.1 (S.2.2.2.2 _ gm_1457) dX11_isKept_9 ?_
      refine W.lcmp hx hb dX11_isKept_12 ?_
      refine lv_topi (fun x39 ex39 => ?_)
      have ix39 := iv_top x39
      have ax39 : x39.toInt = 0 → y0.toInt = (7168368 : Int) := lc_eq ex39
      have bx39 : x39.toInt ≠ 0 → y0.toInt ≠ (7168368 : Int) := lc_ne ex39
      refine lv_if_eq (tgt := 88) hx hb dX11_isKept_13 (by decide) (fun c40 => ?_) (fun c40 => ?_)
      · skip
        have rlc40 : x39.toInt = (0 : Int) := congrArg Int32.toInt c40
        have ir41 : IV x39 0 0 := iv_eL c40 (iv_c (by decide) : IV 0 0 0)
        have ir41a := ir41.1; have ir41b := ir41.2
        exact J88 H locs ls  hH hS (lv_sub hl [0] rfl)
      · skip
        have rlc40 : x39.toInt ≠ (0 : Int) := iv_ne c40
        refine lv_lload_n hx hb dX11_isKept_16 rfl (lv_at hl 0 rfl) ?_
        refine lv_ldc2 (v := 495588568165) hx hb S.2.2.2.1 (S.2.2.2.2 _ gm_1458) dX11_isKept_17 ?_
        refine W.lcmp hx hb dX11_isKept_20 ?_
        refine lv_topi (fun x42 ex42 => ?_)
        have ix42 := iv_top x42
        have ax42 : x42.toInt = 0 → y0.toInt = (495588568165 : Int) := lc_eq ex42
        have bx42 : x42.toInt ≠ 0 → y0.toInt ≠ (495588568165 : Int) := lc_ne ex42
        refine lv_if_eq (tgt := 88) hx hb dX11_isKept_21 (by decide) (fun c43 => ?_) (fun c43 => ?_)
        · skip
          have rlc43 : x42.toInt = (0 : Int) := congrArg Int32.toInt c43
          have ir44 : IV x42 0 0 := iv_eL c43 (iv_c (by decide) : IV 0 0 0)
          have ir44a := ir44.1; have ir44b := ir44.2
          exact J88 H locs ls  hH hS (lv_sub hl [0] rfl)
        · skip
          have rlc43 : x42.toInt ≠ (0 : Int) := iv_ne c43
          refine lv_lload_n hx hb dX11_isKept_24 rfl (lv_at hl 0 rfl) ?_
          refine lv_ldc2 (v := 114853572732274) hx hb S.2.2.2.1 (S.2.2.2.2 _ gm_1459) dX11_isKept_25 ?_
          refine W.lcmp hx hb dX11_isKept_28 ?_
          refine lv_topi (fun x45 ex45 => ?_)
          have ix45 := iv_top x45
          have ax45 : x45.toInt = 0 → y0.toInt = (114853572732274 : Int) := lc_eq ex45
          have bx45 : x45.toInt ≠ 0 → y0.toInt ≠ (114853572732274 : Int) := lc_ne ex45
          refine lv_if_eq (tgt := 88) hx hb dX11_isKept_29 (by decide) (fun c46 => ?_) (fun c46 => ?_)
          · skip
            have rlc46 : x45.toInt = (0 : Int) := congrArg Int32.toInt c46
            have ir47 : IV x45 0 0 := iv_eL c46 (iv_c (by decide) : IV 0 0 0)
            have ir47a := ir47.1; have ir47b := ir47.2
            exact J88 H locs ls  hH hS (lv_sub hl [0] rfl)
          · skip
            have rlc46 : x45.toInt ≠ (0 : Int) := iv_ne c46
            refine lv_lload_n hx hb dX11_isKept_32 rfl (lv_at hl 0 rfl) ?_
            refine lv_ldc2 (v := 26990) hx hb S.2.2.2.1 (S.2.2.2.2 _ gm_1460) dX11_isKept_33 ?_
            refine W.lcmp hx hb dX11_isKept_36 ?_
            refine lv_topi (fun x48 ex48 => ?_)
            have ix48 := iv_top x48
            have ax48 : x48.toInt = 0 → y0.toInt = (26990 : Int) := lc_eq ex48
            have bx48 : x48.toInt ≠ 0 → y0.toInt ≠ (26990 : Int) := lc_ne ex48
            refine lv_if_eq (tgt := 88) hx hb dX11_isKept_37 (by decide) (fun c49 => ?_) (fun c49 => ?_)
            · skip
              have rlc49 : x48.toInt = (0 : Int) := congrArg Int32.toInt c49
              have ir50 : IV x48 0 0 := iv_eL c49 (iv_c (by decide) : IV 0 0 0)
              have ir50a := ir50.1; have ir50b := ir50.2
              exact J88 H locs ls  hH hS (lv_sub hl [0] rfl)
            · skip
              have rlc49 : x48.toInt ≠ (0 : Int) := iv_ne c49
              refine lv_lload_n hx hb dX11_isKept_40 rfl (lv_at hl 0 rfl) ?_
              refine lv_ldc2 (v := 112628745921892) hx hb S.2.2.2.1 (S.2.2.2.2 _ gm_1461) dX11_isKept_41 ?_
              refine W.lcmp hx hb dX11_isKept_44 ?_
              refine lv_topi (fun x51 ex51 => ?_)
              have ix51 := iv_top x51
              have ax51 : x51.toInt = 0 → y0.toInt = (112628745921892 : Int) := lc_eq ex51
              have bx51 : x51.toInt ≠ 0 → y0.toInt ≠ (112628745921892 : Int) := lc_ne ex51
              refine lv_if_eq (tgt := 88) hx hb dX11_isKept_45 (by decide) (fun c52 => ?_) (fun c52 => ?_)
              · skip
                have rlc52 : x51.toInt = (0 : Int) := congrArg Int32.toInt c52
                have ir53 : IV x51 0 0 := iv_eL c52 (iv_c (by decide) : IV 0 0 0)
                have ir53a := ir53.1; have ir53b := ir53.2
                exact J88 H locs ls  hH hS (lv_sub hl [0] rfl)
              · skip
                have rlc52 : x51.toInt ≠ (0 : Int) := iv_ne c52
                refine lv_lload_n hx hb dX11_isKept_48 rfl (lv_at hl 0 rfl) ?_
                refine lv_ldc2 (v := 482854658917) hx hb S.2.2.2.1 (S.2.2.2.2 _ gm_1462) dX11_isKept_49 ?_
                refine W.lcmp hx hb dX11_isKept_52 ?_
                refine lv_topi (fun x54 ex54 => ?_)
                have ix54 := iv_top x54
                have ax54 : x54.toInt = 0 → y0.toInt = (482854658917 : Int) := lc_eq ex54
                have bx54 : x54.toInt ≠ 0 → y0.toInt ≠ (482854658917 : Int) := lc_ne ex54
                refine lv_if_eq (tgt := 88) hx hb dX11_isKept_53 (by decide) (fun c55 => ?_) (fun c55 => ?_)
                · skip
                  have rlc55 : x54.toInt = (0 : Int) := congrArg Int32.toInt c55
                  have ir56 : IV x54 0 0 := iv_eL c55 (iv_c (by decide) : IV 0 0 0)
                  have ir56a := ir56.1; have ir56b := ir56.2
                  exact J88 H locs ls  hH hS (lv_sub hl [0] rfl)
                · skip
                  have rlc55 : x54.toInt ≠ (0 : Int) := iv_ne c55
                  refine lv_lload_n hx hb dX11_isKept_56 rfl (lv_at hl 0 rfl) ?_
                  refine lv_ldc2 (v := 1936292453) hx hb S.2.2.2.1 (S.2.2.2.2 _ gm_1463) dX11_isKept_57 ?_
                  refine W.lcmp hx hb dX11_isKept_60 ?_
                  refine lv_topi (fun x57 ex57 => ?_)
                  have ix57 := iv_top x57
                  have ax57 : x57.toInt = 0 → y0.toInt = (1936292453 : Int) := lc_eq ex57
                  have bx57 : x57.toInt ≠ 0 → y0.toInt ≠ (1936292453 : Int) := lc_ne ex57
                  refine lv_if_eq (tgt := 88) hx hb dX11_isKept_61 (by decide) (fun c58 => ?_) (fun c58 => ?_)
                  · skip
                    have rlc58 : x57.toInt = (0 : Int) := congrArg Int32.toInt c58
                    have ir59 : IV x57 0 0 := iv_eL c58 (iv_c (by decide) : IV 0 0 0)
                    have ir59a := ir59.1; have ir59b := ir59.2
                    exact J88 H locs ls  hH hS (lv_sub hl [0] rfl)
                  · skip
                    have rlc58 : x57.toInt ≠ (0 : Int) := iv_ne c58
                    refine lv_lload_n hx hb dX11_isKept_64 rfl (lv_at hl 0 rfl) ?_
                    refine lv_ldc2 (v := 512970880104) hx hb S.2.2.2.1 (S.2.2.2.2 _ gm_1464) dX11_isKept_65 ?_
                    refine W.lcmp hx hb dX11_isKept_68 ?_
                    refine lv_topi (fun x60 ex60 => ?_)
                    have ix60 := iv_top x60
                    have ax60 : x60.toInt = 0 → y0.toInt = (512970880104 : Int) := lc_eq ex60
                    have bx60 : x60.toInt ≠ 0 → y0.toInt ≠ (512970880104 : Int) := lc_ne ex60
                    refine lv_if_eq (tgt := 88) hx hb dX11_isKept_69 (by decide) (fun c61 => ?_) (fun c61 => ?_)
                    · skip
                      have rlc61 : x60.toInt = (0 : Int) := congrArg Int32.toInt c61
                      have ir62 : IV x60 0 0 := iv_eL c61 (iv_c (by decide) : IV 0 0 0)
                      have ir62a := ir62.1; have ir62b := ir62.2
                      exact J88 H locs ls  hH hS (lv_sub hl [0] rfl)
                    · skip
                      have rlc61 : x60.toInt ≠ (0 : Int) := iv_ne c61
                      refine lv_lload_n hx hb dX11_isKept_72 rfl (lv_at hl 0 rfl) ?_
                      refine lv_ldc2 (v := 28526) hx hb S.2.2.2.1 (S.2.2.2.2 _ gm_1465) dX11_isKept_73 ?_
                      refine W.lcmp hx hb dX11_isKept_76 ?_
                      refine lv_topi (fun x63 ex63 => ?_)
                      have ix63 := iv_top x63
                      have ax63 : x63.toInt = 0 → y0.toInt = (28526 : Int) := lc_eq ex63
                      have bx63 : x63.toInt ≠ 0 → y0.toInt ≠ (28526 : Int) := lc_ne ex63
                      refine lv_if_eq (tgt := 88) hx hb dX11_isKept_77 (by decide) (fun c64 => ?_) (fun c64 => ?_)
                      · skip
                        have rlc64 : x63.toInt = (0 : Int) := congrArg Int32.toInt c64
                        have ir65 : IV x63 0 0 := iv_eL c64 (iv_c (by decide) : IV 0 0 0)
                        have ir65a := ir65.1; have ir65b := ir65.2
                        exact J88 H locs ls  hH hS (lv_sub hl [0] rfl)
                      · skip
                        have rlc64 : x63.toInt ≠ (0 : Int) := iv_ne c64
                        refine lv_lload_n hx hb dX11_isKept_80 rfl (lv_at hl 0 rfl) ?_
                        refine lv_ldc2 (v := 465625113971) hx hb S.2.2.2.1 (S.2.2.2.2 _ gm_1466) dX11_isKept_81 ?_
                        refine W.lcmp hx hb dX11_isKept_84 ?_
                        refine lv_topi (fun x66 ex66 => ?_)
                        have ix66 := iv_top x66
                        have ax66 : x66.toInt = 0 → y0.toInt = (465625113971 : Int) := lc_eq ex66
                        have bx66 : x66.toInt ≠ 0 → y0.toInt ≠ (465625113971 : Int) := lc_ne ex66
                        refine lv_if_ne (tgt := 92) hx hb dX11_isKept_85 (by decide) (fun c67 => ?_) (fun c67 => ?_)
                        · skip
                          have rlc67 : x66.toInt ≠ (0 : Int) := iv_ne c67
                          refine lv_iconst (v := 0) hx hb dX11_isKept_92 (by decide) ?_
                          exact J93_s0_0 H locs ls  hH hS (lv_sub hl [0] rfl)
                        · skip
                          have rlc67 : x66.toInt = (0 : Int) := congrArg Int32.toInt c67
                          have ir68 : IV x66 0 0 := iv_eL c67 (iv_c (by decide) : IV 0 0 0)
                          have ir68a := ir68.1; have ir68b := ir68.2
                          exact J88 H locs ls  hH hS (lv_sub hl [0] rfl)
  exact J0 s.heap [] ls hH va_S.rf hl

set_option maxRecDepth 100000 in
theorem m_X11_isSign (l : Launch) (D : va_G) (cT : Nat → ClassId) (T : Nat → Option Nat) (q : Nat → Int) (hT : tokm T) (hq : qkm q) (y0 : Int32) (j0 : IV y0 (-2147483648) 2147483647) : th_Met l D cT T (km q) yX11_isSign cX11_isSign 1 (some .boolean) (rmk 0 0) [.int y0] (th_R T (some (.inl (0, 1)))) [] := by
  refine th_start (by decide) (Nat.le_of_ble_eq_true rfl) ?_
  intro p e s m below meth c ls S hK hH hr hlocks hnm hl
  have hx := S.1
  have hb := S.2.1
  have hl : lv_has ls 1 [(0, .int y0)] := hl
  have J71_s0_0 : ∀ (H : Heap) (locs : List Loc) (ls : Array Slot), th_H D cT T (km q) H → va_S (th_A T []) s.heap H locs → lv_has ls 1 [] → W p l e (rmk 0 0) s m [.int y0].toArray below meth c H locs 0 0 (MQ below (th_Q D cT T (km q) (th_R T (some (.inl (0, 1)))) []) [.int y0].toArray s 0 0 (th_A T [])) (F0 m 71 ls [.int 0]) := by
    intro H locs ls hH hS hl
    exact th_zret S hK hH hS hr hlocks (iv_w (iv_c (by decide) : IV 0 0 0) (by decide)) (th_R.i (iv_w (iv_c (by decide) : IV 0 0 0) (by decide))) dX11_isSign_71
  have J71_s0_1 : ∀ (H : Heap) (locs : List Loc) (ls : Array Slot), th_H D cT T (km q) H → va_S (th_A T []) s.heap H locs → lv_has ls 1 [] → W p l e (rmk 0 0) s m [.int y0].toArray below meth c H locs 0 0 (MQ below (th_Q D cT T (km q) (th_R T (some (.inl (0, 1)))) []) [.int y0].toArray s 0 0 (th_A T [])) (F0 m 71 ls [.int 1]) := by
    intro H locs ls hH hS hl
    exact th_zret S hK hH hS hr hlocks (iv_w (iv_c (by decide) : IV 1 1 1) (by decide)) (th_R.i (iv_w (iv_c (by decide) : IV 1 1 1) (by decide))) dX11_isSign_71
  have J66 : ∀ (H : Heap) (locs : List Loc) (ls : Array Slot), th_H D cT T (km q) H → va_S (th_A T []) s.heap H locs → lv_has ls 1 [] → W p l e (rmk 0 0) s m [.int y0].toArray below meth c H locs 0 0 (MQ below (th_Q D cT T (km q) (th_R T (some (.inl (0, 1)))) []) [.int y0].toArray s 0 0 (th_A T [])) (F0 m 66 ls []) := by
    intro H locs ls hH hS hl
    refine lv_iconst (v := 1) hx hb dX11_isSign_66 (by decide) ?_
    refine lv_goto (tgt := 71) hx hb dX11_isSign_67 (by decide) ?_
    exact J71_s0_1 H locs ls  hH hS (lv_sub hl [] rfl)
  have J0 : ∀ (H : Heap) (locs : List Loc) (ls : Array Slot), th_H D cT T (km q) H → va_S (th_A T []) s.heap H locs → lv_has ls 1 [(0, .int y0)] → W p l e (rmk 0 0) s m [.int y0].toArray below meth c H locs 0 0 (MQ below (th_Q D cT T (km q) (th_R T (some (.inl (0, 1)))) []) [.int y0].toArray s 0 0 (th_A T [])) (F0 m 0 ls []) := by
    intro H locs ls hH hS hl
    refine lv_iload_n hx hb dX11_isSign_0 rfl (lv_at hl 0 rfl) ?_
    refine lv_bipush (v := 59) hx hb dX11_isSign_1 (by decide) ?_
    refine lv_icmp_eq (tgt := 66) hx hb dX11_isSign_3 (by decide) (fun c1 => ?_) (fun c1 => ?_)
    · skip
      have rlc1 : y0.toInt = (59 : Int) := congrArg Int32.toInt c1
      have ir2 : IV y0 59 59 := iv_eL c1 (iv_c (by decide) : IV 59 59 59)
      have ir2a := ir2.1; have ir2b := ir2.2
      exact J66 H locs ls  hH hS (lv_sub hl [] rfl)
    · skip
      have rlc1 : y0.toInt ≠ (59 : Int) := iv_ne c1
      refine lv_iload_n hx hb dX11_isSign_6 rfl (lv_at hl 0 rfl) ?_
      refine lv_bipush (v := 40) hx hb dX11_isSign_7 (by decide) ?_
      refine lv_icmp_eq (tgt := 66) hx hb dX11_isSign_9 (by decide) (fun c3 => ?_) (fun c3 => ?_)
      · skip
        have rlc3 : y0.toInt = (40 : Int) := congrArg Int32.toInt c3
        have ir4 : IV y0 40 40 := iv_eL c3 (iv_c (by decide) : IV 40 40 40)
        have ir4a := ir4.1; have ir4b := ir4.2
        exact J66 H locs ls  hH hS (lv_sub hl [] rfl)
      · skip
        have rlc3 : y0.toInt ≠ (40 : Int) := iv_ne c3
        refine lv_iload_n hx hb dX11_isSign_12 rfl (lv_at hl 0 rfl) ?_
        refine lv_bipush (v := 41) hx hb dX11_isSign_13 (by decide) ?_
        refine lv_icmp_eq (tgt := 66) hx hb dX11_isSign_15 (by decide) (fun c5 => ?_) (fun c5 => ?_)
        · skip
          have rlc5 : y0.toInt = (41 : Int) := congrArg Int32.toInt c5
          have ir6 : IV y0 41 41 := iv_eL c5 (iv_c (by decide) : IV 41 41 41)
          have ir6a := ir6.1; have ir6b := ir6.2
          exact J66 H locs ls  hH hS (lv_sub hl [] rfl)
        · skip
          have rlc5 : y0.toInt ≠ (41 : Int) := iv_ne c5
          refine lv_iload_n hx hb dX11_isSign_18 rfl (lv_at hl 0 rfl) ?_
          refine lv_bipush (v := 60) hx hb dX11_isSign_19 (by decide) ?_
          refine lv_icmp_eq (tgt := 66) hx hb dX11_isSign_21 (by decide) (fun c7 => ?_) (fun c7 => ?_)
          · skip
            have rlc7 : y0.toInt = (60 : Int) := congrArg Int32.toInt c7
            have ir8 : IV y0 60 60 := iv_eL c7 (iv_c (by decide) : IV 60 60 60)
            have ir8a := ir8.1; have ir8b := ir8.2
            exact J66 H locs ls  hH hS (lv_sub hl [] rfl)
          · skip
            have rlc7 : y0.toInt ≠ (60 : Int) := iv_ne c7
            refine lv_iload_n hx hb dX11_isSign_24 rfl (lv_at hl 0 rfl) ?_
            refine lv_bipush (v := 62) hx hb dX11_isSign_25 (by decide) ?_
            refine lv_icmp_eq (tgt := 66) hx hb dX11_isSign_27 (by decide) (fun c9 => ?_) (fun c9 => ?_)
            · skip
              have rlc9 : y0.toInt = (62 : Int) := congrArg Int32.toInt c9
              have ir10 : IV y0 62 62 := iv_eL c9 (iv_c (by decide) : IV 62 62 62)
              have ir10a := ir10.1; have ir10b := ir10.2
              exact J66 H locs ls  hH hS (lv_sub hl [] rfl)
            · skip
              have rlc9 : y0.toInt ≠ (62 : Int) := iv_ne c9
              refine lv_iload_n hx hb dX11_isSign_30 rfl (lv_at hl 0 rfl) ?_
              refine lv_bipush (v := 61) hx hb dX11_isSign_31 (by decide) ?_
              refine lv_icmp_eq (tgt := 66) hx hb dX11_isSign_33 (by decide) (fun c11 => ?_) (fun c11 => ?_)
              · skip
                have rlc11 : y0.toInt = (61 : Int) := congrArg Int32.toInt c11
                have ir12 : IV y0 61 61 := iv_eL c11 (iv_c (by decide) : IV 61 61 61)
                have ir12a := ir12.1; have ir12b := ir12.2
                exact J66 H locs ls  hH hS (lv_sub hl [] rfl)
              · skip
                have rlc11 : y0.toInt ≠ (61 : Int) := iv_ne c11
                refine lv_iload_n hx hb dX11_isSign_36 rfl (lv_at hl 0 rfl) ?_
                refine lv_bipush (v := 43) hx hb dX11_isSign_37 (by decide) ?_
                refine lv_icmp_eq (tgt := 66) hx hb dX11_isSign_39 (by decide) (fun c13 => ?_) (fun c13 => ?_)
                · skip
                  have rlc13 : y0.toInt = (43 : Int) := congrArg Int32.toInt c13
                  have ir14 : IV y0 43 43 := iv_eL c13 (iv_c (by decide) : IV 43 43 43)
                  have ir14a := ir14.1; have ir14b := ir14.2
                  exact J66 H locs ls  hH hS (lv_sub hl [] rfl)
                · skip
                  have rlc13 : y0.toInt ≠ (43 : Int) := iv_ne c13
                  refine lv_iload_n hx hb dX11_isSign_42 rfl (lv_at hl 0 rfl) ?_
                  refine lv_bipush (v := 45) hx hb dX11_isSign_43 (by decide) ?_
                  refine lv_icmp_eq (tgt := 66) hx hb dX11_isSign_45 (by decide) (fun c15 => ?_) (fun c15 => ?_)
                  · skip
                    have rlc15 : y0.toInt = (45 : Int) := congrArg Int32.toInt c15
                    have ir16 : IV y0 45 45 := iv_eL c15 (iv_c (by decide) : IV 45 45 45)
                    have ir16a := ir16.1; have ir16b := ir16.2
                    exact J66 H locs ls  hH hS (lv_sub hl [] rfl)
                  · skip
                    have rlc15 : y0.toInt ≠ (45 : Int) := iv_ne c15
                    refine lv_iload_n hx hb dX11_isSign_48 rfl (lv_at hl 0 rfl) ?_
                    refine lv_bipush (v := 42) hx hb dX11_isSign_49 (by decide) ?_
                    refine lv_icmp_eq (tgt := 66) hx hb dX11_isSign_51 (by decide) (fun c17 => ?_) (fun c17 => ?_)
                    · skip
                      have rlc17 : y0.toInt = (42 : Int) := congrArg Int32.toInt c17
                      have ir18 : IV y0 42 42 := iv_eL c17 (iv_c (by decide) : IV 42 42 42)
                      have ir18a := ir18.1; have ir18b := ir18.2
                      exact J66 H locs ls  hH hS (lv_sub hl [] rfl)
                    · skip
                      have rlc17 : y0.toInt ≠ (42 : Int) := iv_ne c17
                      refine lv_iload_n hx hb dX11_isSign_54 rfl (lv_at hl 0 rfl) ?_
                      refine lv_bipush (v := 47) hx hb dX11_isSign_55 (by decide) ?_
                      refine lv_icmp_eq (tgt := 66) hx hb dX11_isSign_57 (by decide) (fun c19 => ?_) (fun c19 => ?_)
                      · skip
                        have rlc19 : y0.toInt = (47 : Int) := congrArg Int32.toInt c19
                        have ir20 : IV y0 47 47 := iv_eL c19 (iv_c (by decide) : IV 47 47 47)
                        have ir20a := ir20.1; have ir20b := ir20.2
                        exact J66 H locs ls  hH hS (lv_sub hl [] rfl)
                      · skip
                        have rlc19 : y0.toInt ≠ (47 : Int) := iv_ne c19
                        refine lv_iload_n hx hb dX11_isSign_60 rfl (lv_at hl 0 rfl) ?_
                        refine lv_bipush (v := 37) hx hb dX11_isSign_61 (by decide) ?_
                        refine lv_icmp_ne (tgt := 70) hx hb dX11_isSign_63 (by decide) (fun c21 => ?_) (fun c21 => ?_)
                        · skip
                          have rlc21 : y0.toInt ≠ (37 : Int) := iv_ne c21
                          refine lv_iconst (v := 0) hx hb dX11_isSign_70 (by decide) ?_
                          exact J71_s0_0 H locs ls  hH hS (lv_sub hl [] rfl)
                        · skip
                          have rlc21 : y0.toInt = (37 : Int) := congrArg Int32.toInt c21
                          have ir22 : IV y0 37 37 := iv_eL c21 (iv_c (by decide) : IV 37 37 37)
                          have ir22a := ir22.1; have ir22b := ir22.2
                          exact J66 H locs ls  hH hS (lv_sub hl [] rfl)
  exact J0 s.heap [] ls hH va_S.rf hl

set_option maxRecDepth 100000 in
theorem m_X11_isWord (l : Launch) (D : va_G) (cT : Nat → ClassId) (T : Nat → Option Nat) (q : Nat → Int) (hT : tokm T) (hq : qkm q) (a0 : Nat) (t0 : T a0 = some 0) (y1 : Int64) : th_Met l D cT T (km q) yX11_isWord cX11_isWord 3 (some .boolean) (rmk 0 0) [.ref a0, .long y1] (th_R T (some (.inl (0, 1)))) [] := by
  refine th_start (by decide) (Nat.le_of_ble_eq_true rfl) ?_
  intro p e s m below meth c ls S hK hH hr hlocks hnm hl
  have hx := S.1
  have hb := S.2.1
  have hl : lv_has ls 3 [(0, .ref a0), (1, .long y1)] := hl
  have J22_s0_0 : ∀ (H : Heap) (locs : List Loc) (ls : Array Slot), th_H D cT T (km q) H → va_S (th_A T []) s.heap H locs → lv_has ls 3 [] → W p l e (rmk 0 0) s m [.ref a0, .long y1].toArray below meth c H locs 0 0 (MQ below (th_Q D cT T (km q) (th_R T (some (.inl (0, 1)))) []) [.ref a0, .long y1].toArray s 0 0 (th_A T [])) (F0 m 22 ls [.int 0]) := by
    intro H locs ls hH hS hl
    exact th_zret S hK hH hS hr hlocks (iv_w (iv_c (by decide) : IV 0 0 0) (by decide)) (th_R.i (iv_w (iv_c (by decide) : IV 0 0 0) (by decide))) dX11_isWord_22
  have J22_s0_1 : ∀ (H : Heap) (locs : List Loc) (ls : Array Slot), th_H D cT T (km q) H → va_S (th_A T []) s.heap H locs → lv_has ls 3 [] → W p l e (rmk 0 0) s m [.ref a0, .long y1].toArray below meth c H locs 0 0 (MQ below (th_Q D cT T (km q) (th_R T (some (.inl (0, 1)))) []) [.ref a0, .long y1].toArray s 0 0 (th_A T [])) (F0 m 22 ls [.int 1]) := by
    intro H locs ls hH hS hl
    exact th_zret S hK hH hS hr hlocks (iv_w (iv_c (by decide) : IV 1 1 1) (by decide)) (th_R.i (iv_w (iv_c (by decide) : IV 1 1 1) (by decide))) dX11_isWord_22
  have J21 : ∀ (H : Heap) (locs : List Loc) (ls : Array Slot), th_H D cT T (km q) H → va_S (th_A T []) s.heap H locs → lv_has ls 3 [] → W p l e (rmk 0 0) s m [.ref a0, .long y1].toArray below meth c H locs 0 0 (MQ below (th_Q D cT T (km q) (th_R T (some (.inl (0, 1)))) []) [.ref a0, .long y1].toArray s 0 0 (th_A T [])) (F0 m 21 ls []) := by
    intro H locs ls hH hS hl
    refine lv_iconst (v := 0) hx hb dX11_isWord_21 (by decide) ?_
    exact J22_s0_0 H locs ls  hH hS (lv_sub hl [] rfl)
  have J0 : ∀ (H : Heap) (locs : List Loc) (ls : Array Slot), th_H D cT T (km q) H → va_S (th_A T []) s.heap H locs → lv_has ls 3 [(0, .ref a0), (1, .long y1)] → W p l e (rmk 0 0) s m [.ref a0, .long y1].toArray below meth c H locs 0 0 (MQ below (th_Q D cT T (km q) (th_R T (some (.inl (0, 1)))) []) [.ref a0, .long y1].toArray s 0 0 (th_A T [])) (F0 m 0 ls []) := by
    intro H locs ls hH hS hl
    refine lv_aload_n hx hb dX11_isWord_0 rfl (lv_at hl 0 rfl) ?_
    refine th_get S hK hH inG11 t0 km_0 rfl 8 (by decide) gm_1238 rfl rfl dX11_isWord_1 (fun v1 hv1 fv1 => ?_)
    obtain ⟨x2, rfl, ix2⟩ := th_V.int hv1
    have kx2a : q 29 ≤ x2.toInt := ix2.1
    have kx2b : x2.toInt ≤ q 29 := ix2.2
    have ix2 : IV x2 0 5 := iv_w ix2 (qkm_29 hq)
    refine lv_iconst (v := 3) hx hb dX11_isWord_4 (by decide) ?_
    refine lv_icmp_ne (tgt := 21) hx hb dX11_isWord_5 (by decide) (fun c3 => ?_) (fun c3 => ?_)
    · skip
      have rlc3 : x2.toInt ≠ (3 : Int) := iv_ne c3
      exact J21 H locs ls  hH hS (lv_sub hl [] rfl)
    · skip
      have rlc3 : x2.toInt = (3 : Int) := congrArg Int32.toInt c3
      have ir4 : IV x2 3 3 := iv_eL c3 (iv_c (by decide) : IV 3 3 3)
      have ir4a := ir4.1; have ir4b := ir4.2
      refine lv_aload_n hx hb dX11_isWord_8 rfl (lv_at hl 0 rfl) ?_
      refine th_getM S hK hH inG11 t0 km_0 rfl 10 (by decide) gm_1240 rfl rfl dX11_isWord_9 (fun v5 hv5 wv5 => ?_)
      obtain ⟨lg6, rfl⟩ := th_V.long hv5
      have klg6 : lg6.toInt = q 31 := by obtain ⟨vs, z1, z2⟩ := wv5; exact z2 _ z1
      refine lv_lload_n hx hb dX11_isWord_12 rfl (lv_at hl 1 rfl) ?_
      refine W.lcmp hx hb dX11_isWord_13 ?_
      refine lv_topi (fun x7 ex7 => ?_)
      have ix7 := iv_top x7
      have ax7 : x7.toInt = 0 → lg6.toInt = y1.toInt := lc_eq ex7
      have bx7 : x7.toInt ≠ 0 → lg6.toInt ≠ y1.toInt := lc_ne ex7
      refine lv_if_ne (tgt := 21) hx hb dX11_isWord_14 (by decide) (fun c8 => ?_) (fun c8 => ?_)
      · skip
        have rlc8 : x7.toInt ≠ (0 : Int) := iv_ne c8
        exact J21 H locs ls  hH hS (lv_sub hl [] rfl)
      · skip
        have rlc8 : x7.toInt = (0 : Int) := congrArg Int32.toInt c8
        have ir9 : IV x7 0 0 := iv_eL c8 (iv_c (by decide) : IV 0 0 0)
        have ir9a := ir9.1; have ir9b := ir9.2
        refine lv_iconst (v := 1) hx hb dX11_isWord_17 (by decide) ?_
        refine lv_goto (tgt := 22) hx hb dX11_isWord_18 (by decide) ?_
        exact J22_s0_1 H locs ls  hH hS (lv_sub hl [] rfl)
  exact J0 s.heap [] ls hH va_S.rf hl

set_option maxRecDepth 100000 in
theorem m_X11_isFull (l : Launch) (D : va_G) (cT : Nat → ClassId) (T : Nat → Option Nat) (q : Nat → Int) (hT : tokm T) (hq : qkm q) (a0 : Nat) (t0 : T a0 = some 0) : th_Met l D cT T (km q) yX11_isFull cX11_isFull 1 (some .boolean) (rmk 1 22) [.ref a0] (th_R T (some (.inl (0, 1)))) [] := by
  refine th_start (by decide) (Nat.le_of_ble_eq_true rfl) ?_
  intro p e s m below meth c ls S hK hH hr hlocks hnm hl
  have hx := S.1
  have hb := S.2.1
  have hl : lv_has ls 1 [(0, .ref a0)] := hl
  have J215_s0_0 : ∀ (H : Heap) (locs : List Loc) (ls : Array Slot), th_H D cT T (km q) H → va_S (th_A T []) s.heap H locs → lv_has ls 1 [] → W p l e (rmk 1 22) s m [.ref a0].toArray below meth c H locs 0 0 (MQ below (th_Q D cT T (km q) (th_R T (some (.inl (0, 1)))) []) [.ref a0].toArray s 0 0 (th_A T [])) (F0 m 215 ls [.int 0]) := by
    intro H locs ls hH hS hl
    exact th_zret S hK hH hS hr hlocks (iv_w (iv_c (by decide) : IV 0 0 0) (by decide)) (th_R.i (iv_w (iv_c (by decide) : IV 0 0 0) (by decide))) dX11_isFull_215
  have J215_s0_1 : ∀ (H : Heap) (locs : List Loc) (ls : Array Slot), th_H D cT T (km q) H → va_S (th_A T []) s.heap H locs → lv_has ls 1 [] → W p l e (rmk 1 22) s m [.ref a0].toArray below meth c H locs 0 0 (MQ below (th_Q D cT T (km q) (th_R T (some (.inl (0, 1)))) []) [.ref a0].toArray s 0 0 (th_A T [])) (F0 m 215 ls [.int 1]) := by
    intro H locs ls hH hS hl
    exact th_zret S hK hH hS hr hlocks (iv_w (iv_c (by decide) : IV 1 1 1) (by decide)) (th_R.i (iv_w (iv_c (by decide) : IV 1 1 1) (by decide))) dX11_isFull_215
  have J210 : ∀ (H : Heap) (locs : List Loc) (ls : Array Slot), th_H D cT T (km q) H → va_S (th_A T []) s.heap H locs → lv_has ls 1 [] → W p l e (rmk 1 22) s m [.ref a0].toArray below meth c H locs 0 0 (MQ below (th_Q D cT T (km q) (th_R T (some (.inl (0, 1)))) []) [.ref a0].toArray s 0 0 (th_A T [])) (F0 m 210 ls []) := by
    intro H locs ls hH hS hl
    refine lv_iconst (v := 1) hx hb dX11_isFull_210 (by decide) ?_
    refine lv_goto (tgt := 215) hx hb dX11_isFull_211 (by decide) ?_
    exact J215_s0_1 H locs ls  hH hS (lv_sub hl [] rfl)
  have J147_s0_0 : ∀ (H : Heap) (locs : List Loc) (ls : Array Slot), th_H D cT T (km q) H → va_S (th_A T []) s.heap H locs → lv_has ls 1 [] → W p l e (rmk 1 22) s m [.ref a0].toArray below meth c H locs 0 0 (MQ below (th_Q D cT T (km q) (th_R T (some (.inl (0, 1)))) []) [.ref a0].toArray s 0 0 (th_A T [])) (F0 m 147 ls [.int 0]) := by
    intro H locs ls hH hS hl
    exact th_zret S hK hH hS hr hlocks (iv_w (iv_c (by decide) : IV 0 0 0) (by decide)) (th_R.i (iv_w (iv_c (by decide) : IV 0 0 0) (by decide))) dX11_isFull_147
  have J147_s0_1 : ∀ (H : Heap) (locs : List Loc) (ls : Array Slot), th_H D cT T (km q) H → va_S (th_A T []) s.heap H locs → lv_has ls 1 [] → W p l e (rmk 1 22) s m [.ref a0].toArray below meth c H locs 0 0 (MQ below (th_Q D cT T (km q) (th_R T (some (.inl (0, 1)))) []) [.ref a0].toArray s 0 0 (th_A T [])) (F0 m 147 ls [.int 1]) := by
    intro H locs ls hH hS hl
    exact th_zret S hK hH hS hr hlocks (iv_w (iv_c (by decide) : IV 1 1 1) (by decide)) (th_R.i (iv_w (iv_c (by decide) : IV 1 1 1) (by decide))) dX11_isFull_147
  have J117_s0_0 : ∀ (H : Heap) (locs : List Loc) (ls : Array Slot), th_H D cT T (km q) H → va_S (th_A T []) s.heap H locs → lv_has ls 1 [] → W p l e (rmk 1 22) s m [.ref a0].toArray below meth c H locs 0 0 (MQ below (th_Q D cT T (km q) (th_R T (some (.inl (0, 1)))) []) [.ref a0].toArray s 0 0 (th_A T [])) (F0 m 117 ls [.int 0]) := by
    intro H locs ls hH hS hl
    exact th_zret S hK hH hS hr hlocks (iv_w (iv_c (by decide) : IV 0 0 0) (by decide)) (th_R.i (iv_w (iv_c (by decide) : IV 0 0 0) (by decide))) dX11_isFull_117
  have J117_s0_1 : ∀ (H : Heap) (locs : List Loc) (ls : Array Slot), th_H D cT T (km q) H → va_S (th_A T []) s.heap H locs → lv_has ls 1 [] → W p l e (rmk 1 22) s m [.ref a0].toArray below meth c H locs 0 0 (MQ below (th_Q D cT T (km q) (th_R T (some (.inl (0, 1)))) []) [.ref a0].toArray s 0 0 (th_A T [])) (F0 m 117 ls [.int 1]) := by
    intro H locs ls hH hS hl
    exact th_zret S hK hH hS hr hlocks (iv_w (iv_c (by decide) : IV 1 1 1) (by decide)) (th_R.i (iv_w (iv_c (by decide) : IV 1 1 1) (by decide))) dX11_isFull_117
  have J87_s0_0 : ∀ (H : Heap) (locs : List Loc) (ls : Array Slot), th_H D cT T (km q) H → va_S (th_A T []) s.heap H locs → lv_has ls 1 [] → W p l e (rmk 1 22) s m [.ref a0].toArray below meth c H locs 0 0 (MQ below (th_Q D cT T (km q) (th_R T (some (.inl (0, 1)))) []) [.ref a0].toArray s 0 0 (th_A T [])) (F0 m 87 ls [.int 0]) := by
    intro H locs ls hH hS hl
    exact th_zret S hK hH hS hr hlocks (iv_w (iv_c (by decide) : IV 0 0 0) (by decide)) (th_R.i (iv_w (iv_c (by decide) : IV 0 0 0) (by decide))) dX11_isFull_87
  have J87_s0_1 : ∀ (H : Heap) (locs : List Loc) (ls : Array Slot), th_H D cT T (km q) H → va_S (th_A T []) s.heap H locs → lv_has ls 1 [] → W p l e (rmk 1 22) s m [.ref a0].toArray below meth c H locs 0 0 (MQ below (th_Q D cT T (km q) (th_R T (some (.inl (0, 1)))) []) [.ref a0].toArray s 0 0 (th_A T [])) (F0 m 87 ls [.int 1]) := by
    intro H locs ls hH hS hl
    exact th_zret S hK hH hS hr hlocks (iv_w (iv_c (by decide) : IV 1 1 1) (by decide)) (th_R.i (iv_w (iv_c (by decide) : IV 1 1 1) (by decide))) dX11_isFull_87
  have J57_s0_0 : ∀ (H : Heap) (locs : List Loc) (ls : Array Slot), th_H D cT T (km q) H → va_S (th_A T []) s.heap H locs → lv_has ls 1 [] → W p l e (rmk 1 22) s m [.ref a0].toArray below meth c H locs 0 0 (MQ below (th_Q D cT T (km q) (th_R T (some (.inl (0, 1)))) []) [.ref a0].toArray s 0 0 (th_A T [])) (F0 m 57 ls [.int 0]) := by
    intro H locs ls hH hS hl
    exact th_zret S hK hH hS hr hlocks (iv_w (iv_c (by decide) : IV 0 0 0) (by decide)) (th_R.i (iv_w (iv_c (by decide) : IV 0 0 0) (by decide))) dX11_isFull_57
  have J57_s0_1 : ∀ (H : Heap) (locs : List Loc) (ls : Array Slot), th_H D cT T (km q) H → va_S (th_A T []) s.heap H locs → lv_has ls 1 [] → W p l e (rmk 1 22) s m [.ref a0].toArray below meth c H locs 0 0 (MQ below (th_Q D cT T (km q) (th_R T (some (.inl (0, 1)))) []) [.ref a0].toArray s 0 0 (th_A T [])) (F0 m 57 ls [.int 1]) := by
    intro H locs ls hH hS hl
    exact th_zret S hK hH hS hr hlocks (iv_w (iv_c (by decide) : IV 1 1 1) (by decide)) (th_R.i (iv_w (iv_c (by decide) : IV 1 1 1) (by decide))) dX11_isFull_57
  have J28_s0_0 : ∀ (H : Heap) (locs : List Loc) (ls : Array Slot), th_H D cT T (km q) H → va_S (th_A T []) s.heap H locs → lv_has ls 1 [] → W p l e (rmk 1 22) s m [.ref a0].toArray below meth c H locs 0 0 (MQ below (th_Q D cT T (km q) (th_R T (some (.inl (0, 1)))) []) [.ref a0].toArray s 0 0 (th_A T [])) (F0 m 28 ls [.int 0]) := by
    intro H locs ls hH hS hl
    exact th_zret S hK hH hS hr hlocks (iv_w (iv_c (by decide) : IV 0 0 0) (by decide)) (th_R.i (iv_w (iv_c (by decide) : IV 0 0 0) (by decide))) dX11_isFull_28
  have J28_s0_1 : ∀ (H : Heap) (locs : List Loc) (ls : Array Slot), th_H D cT T (km q) H → va_S (th_A T []) s.heap H locs → lv_has ls 1 [] → W p l e (rmk 1 22) s m [.ref a0].toArray below meth c H locs 0 0 (MQ below (th_Q D cT T (km q) (th_R T (some (.inl (0, 1)))) []) [.ref a0].toArray s 0 0 (th_A T [])) (F0 m 28 ls [.int 1]) := by
    intro H locs ls hH hS hl
    exact th_zret S hK hH hS hr hlocks (iv_w (iv_c (by decide) : IV 1 1 1) (by decide)) (th_R.i (iv_w (iv_c (by decide) : IV 1 1 1) (by decide))) dX11_isFull_28
  have J0 : ∀ (H : Heap) (locs : List Loc) (ls : Array Slot), th_H D cT T (km q) H → va_S (th_A T []) s.heap H locs → lv_has ls 1 [(0, .ref a0)] → W p l e (rmk 1 22) s m [.ref a0].toArray below meth c H locs 0 0 (MQ below (th_Q D cT T (km q) (th_R T (some (.inl (0, 1)))) []) [.ref a0].toArray s 0 0 (th_A T [])) (F0 m 0 ls []) := by
    intro H locs ls hH hS hl
    refine lv_aload_n hx hb dX11_isFull_0 rfl (lv_at hl 0 rfl) ?_
    refine lv_ldc2 (v := 1718579044) hx hb S.2.2.2.1 (S.2.2.2.2 _ gm_1456) dX11_isFull_1 ?_
    refine th_callVi (n := 1) (As := [.long 1718579044]) S hK hH hS (th_A.sub (by decide)) (m_X11_isWord l D cT T q hT hq a0 t0 (1718579044)) gm_1499 gm_1496 gm_1498 gm_52 gm_124 (by decide +kernel) ⟨rfl, rfl, Nat.le_of_ble_eq_true rfl, Nat.le_of_ble_eq_true rfl⟩ t0 km_0 rfl rfl hl.1 rfl (Nat.le_of_ble_eq_true rfl) dX11_isFull_4 ⟨Nat.zero_le _, Nat.zero_le _⟩ (fun x1 H locs ix1 hH hS hF1 => ?_)
    refine lv_if_eq (tgt := 29) hx hb dX11_isFull_7 (by decide) (fun c2 => ?_) (fun c2 => ?_)
    · skip
      have rlc2 : x1.toInt = (0 : Int) := congrArg Int32.toInt c2
      have ir3 : IV x1 0 0 := iv_eL c2 (iv_c (by decide) : IV 0 0 0)
      have ir3a := ir3.1; have ir3b := ir3.2
      refine lv_aload_n hx hb dX11_isFull_29 rfl (lv_at hl 0 rfl) ?_
      refine lv_ldc2 (v := 7168368) hx hb S.2.2.2.1 (S.2.2.2.2 _ gm_1457) dX11_isFull_30 ?_
      refine th_callVi (n := 1) (As := [.long 7168368]) S hK hH hS (th_A.sub (by decide)) (m_X11_isWord l D cT T q hT hq a0 t0 (7168368)) gm_1499 gm_1496 gm_1498 gm_52 gm_124 (by decide +kernel) ⟨rfl, rfl, Nat.le_of_ble_eq_true rfl, Nat.le_of_ble_eq_true rfl⟩ t0 km_0 rfl rfl hl.1 rfl (Nat.le_of_ble_eq_true rfl) dX11_isFull_33 ⟨Nat.zero_le _, Nat.zero_le _⟩ (fun x4 H locs ix4 hH hS hF1 => ?_)
      refine lv_if_eq (tgt := 58) hx hb dX11_isFull_36 (by decide) (fun c5 => ?_) (fun c5 => ?_)
      · skip
        have rlc5 : x4.toInt = (0 : Int) := congrArg Int32.toInt c5
        have ir6 : IV x4 0 0 := iv_eL c5 (iv_c (by decide) : IV 0 0 0)
        have ir6a := ir6.1; have ir6b := ir6.2
        refine lv_aload_n hx hb dX11_isFull_58 rfl (lv_at hl 0 rfl) ?_
        refine lv_ldc2 (v := 482854658917) hx hb S.2.2.2.1 (S.2.2.2.2 _ gm_1462) dX11_isFull_59 ?_
        refine th_callVi (n := 1) (As := [.long 482854658917]) S hK hH hS (th_A.sub (by decide)) (m_X11_isWord l D cT T q hT hq a0 t0 (482854658917)) gm_1499 gm_1496 gm_1498 gm_52 gm_124 (by decide +kernel) ⟨rfl, rfl, Nat.le_of_ble_eq_true rfl, Nat.le_of_ble_eq_true rfl⟩ t0 km_0 rfl rfl hl.1 rfl (Nat.le_of_ble_eq_true rfl) dX11_isFull_62 ⟨Nat.zero_le _, Nat.zero_le _⟩ (fun x7 H locs ix7 hH hS hF1 => ?_)
        refine lv_if_eq (tgt := 88) hx hb dX11_isFull_65 (by decide) (fun c8 => ?_) (fun c8 => ?_)
        · skip
          have rlc8 : x7.toInt = (0 : Int) := congrArg Int32.toInt c8
          have ir9 : IV x7 0 0 := iv_eL c8 (iv_c (by decide) : IV 0 0 0)
          have ir9a := ir9.1; have ir9b := ir9.2
          refine lv_aload_n hx hb dX11_isFull_88 rfl (lv_at hl 0 rfl) ?_
          refine lv_ldc2 (v := 465625113971) hx hb S.2.2.2.1 (S.2.2.2.2 _ gm_1466) dX11_isFull_89 ?_
          refine th_callVi (n := 1) (As := [.long 465625113971]) S hK hH hS (th_A.sub (by decide)) (m_X11_isWord l D cT T q hT hq a0 t0 (465625113971)) gm_1499 gm_1496 gm_1498 gm_52 gm_124 (by decide +kernel) ⟨rfl, rfl, Nat.le_of_ble_eq_true rfl, Nat.le_of_ble_eq_true rfl⟩ t0 km_0 rfl rfl hl.1 rfl (Nat.le_of_ble_eq_true rfl) dX11_isFull_92 ⟨Nat.zero_le _, Nat.zero_le _⟩ (fun x10 H locs ix10 hH hS hF1 => ?_)
          refine lv_if_eq (tgt := 118) hx hb dX11_isFull_95 (by decide) (fun c11 => ?_) (fun c11 => ?_)
          · skip
            have rlc11 : x10.toInt = (0 : Int) := congrArg Int32.toInt c11
            have ir12 : IV x10 0 0 := iv_eL c11 (iv_c (by decide) : IV 0 0 0)
            have ir12a := ir12.1; have ir12b := ir12.2
            refine lv_aload_n hx hb dX11_isFull_118 rfl (lv_at hl 0 rfl) ?_
            refine lv_ldc2 (v := 108230800074098) hx hb S.2.2.2.1 (S.2.2.2.2 _ gm_1467) dX11_isFull_119 ?_
            refine th_callVi (n := 1) (As := [.long 108230800074098]) S hK hH hS (th_A.sub (by decide)) (m_X11_isWord l D cT T q hT hq a0 t0 (108230800074098)) gm_1499 gm_1496 gm_1498 gm_52 gm_124 (by decide +kernel) ⟨rfl, rfl, Nat.le_of_ble_eq_true rfl, Nat.le_of_ble_eq_true rfl⟩ t0 km_0 rfl rfl hl.1 rfl (Nat.le_of_ble_eq_true rfl) dX11_isFull_122 ⟨Nat.zero_le _, Nat.zero_le _⟩ (fun x13 H locs ix13 hH hS hF1 => ?_)
            refine lv_if_eq (tgt := 148) hx hb dX11_isFull_125 (by decide) (fun c14 => ?_) (fun c14 => ?_)
            · skip
              have rlc14 : x13.toInt = (0 : Int) := congrArg Int32.toInt c14
              have ir15 : IV x13 0 0 := iv_eL c14 (iv_c (by decide) : IV 0 0 0)
              have ir15a := ir15.1; have ir15b := ir15.2
              refine lv_aload_n hx hb dX11_isFull_148 rfl (lv_at hl 0 rfl) ?_
              refine lv_ldc2 (v := 499851162725) hx hb S.2.2.2.1 (S.2.2.2.2 _ gm_1468) dX11_isFull_149 ?_
              refine th_callVi (n := 1) (As := [.long 499851162725]) S hK hH hS (th_A.sub (by decide)) (m_X11_isWord l D cT T q hT hq a0 t0 (499851162725)) gm_1499 gm_1496 gm_1498 gm_52 gm_124 (by decide +kernel) ⟨rfl, rfl, Nat.le_of_ble_eq_true rfl, Nat.le_of_ble_eq_true rfl⟩ t0 km_0 rfl rfl hl.1 rfl (Nat.le_of_ble_eq_true rfl) dX11_isFull_152 ⟨Nat.zero_le _, Nat.zero_le _⟩ (fun x16 H locs ix16 hH hS hF1 => ?_)
              refine lv_if_eq (tgt := 168) hx hb dX11_isFull_155 (by decide) (fun c17 => ?_) (fun c17 => ?_)
              · skip
                have rlc17 : x16.toInt = (0 : Int) := congrArg Int32.toInt c17
                have ir18 : IV x16 0 0 := iv_eL c17 (iv_c (by decide) : IV 0 0 0)
                have ir18a := ir18.1; have ir18b := ir18.2
                refine lv_aload_n hx hb dX11_isFull_168 rfl (lv_at hl 0 rfl) ?_
                refine lv_ldc2 (v := 131294708393330) hx hb S.2.2.2.1 (S.2.2.2.2 _ gm_1469) dX11_isFull_169 ?_
                refine th_callVi (n := 1) (As := [.long 131294708393330]) S hK hH hS (th_A.sub (by decide)) (m_X11_isWord l D cT T q hT hq a0 t0 (131294708393330)) gm_1499 gm_1496 gm_1498 gm_52 gm_124 (by decide +kernel) ⟨rfl, rfl, Nat.le_of_ble_eq_true rfl, Nat.le_of_ble_eq_true rfl⟩ t0 km_0 rfl rfl hl.1 rfl (Nat.le_of_ble_eq_true rfl) dX11_isFull_172 ⟨Nat.zero_le _, Nat.zero_le _⟩ (fun x19 H locs ix19 hH hS hF1 => ?_)
                refine lv_if_eq (tgt := 188) hx hb dX11_isFull_175 (by decide) (fun c20 => ?_) (fun c20 => ?_)
                · skip
                  have rlc20 : x19.toInt = (0 : Int) := congrArg Int32.toInt c20
                  have ir21 : IV x19 0 0 := iv_eL c20 (iv_c (by decide) : IV 0 0 0)
                  have ir21a := ir21.1; have ir21b := ir21.2
                  refine lv_aload_n hx hb dX11_isFull_188 rfl (lv_at hl 0 rfl) ?_
                  refine lv_ldc2 (v := 1685217655) hx hb S.2.2.2.1 (S.2.2.2.2 _ gm_1470) dX11_isFull_189 ?_
                  refine th_callVi (n := 1) (As := [.long 1685217655]) S hK hH hS (th_A.sub (by decide)) (m_X11_isWord l D cT T q hT hq a0 t0 (1685217655)) gm_1499 gm_1496 gm_1498 gm_52 gm_124 (by decide +kernel) ⟨rfl, rfl, Nat.le_of_ble_eq_true rfl, Nat.le_of_ble_eq_true rfl⟩ t0 km_0 rfl rfl hl.1 rfl (Nat.le_of_ble_eq_true rfl) dX11_isFull_192 ⟨Nat.zero_le _, Nat.zero_le _⟩ (fun x22 H locs ix22 hH hS hF1 => ?_)
                  refine lv_if_eq (tgt := 210) hx hb dX11_isFull_195 (by decide) (fun c23 => ?_) (fun c23 => ?_)
                  · skip
                    have rlc23 : x22.toInt = (0 : Int) := congrArg Int32.toInt c23
                    have ir24 : IV x22 0 0 := iv_eL c23 (iv_c (by decide) : IV 0 0 0)
                    have ir24a := ir24.1; have ir24b := ir24.2
                    exact J210 H locs ls  hH hS (lv_sub hl [] rfl)
                  · skip
                    have rlc23 : x22.toInt ≠ (0 : Int) := iv_ne c23
                    have ir25 : IV x22 1 1 := iv_cutL ix22 (iv_c (by decide) : IV 0 0 0) c23 (by decide)
                    have ir25a := ir25.1; have ir25b := ir25.2
                    refine lv_aload_n hx hb dX11_isFull_198 rfl (lv_at hl 0 rfl) ?_
                    refine th_get S hK hH inG11 t0 km_0 rfl 32 (by decide) gm_1262 rfl rfl dX11_isFull_199 (fun v26 hv26 fv26 => ?_)
                    obtain ⟨rf27, rfl, trf27⟩ := th_V.ref hv26
                    refine lv_aload_n hx hb dX11_isFull_202 rfl (lv_at hl 0 rfl) ?_
                    refine th_get S hK hH inG11 t0 km_0 rfl 42 (by decide) gm_1272 rfl rfl dX11_isFull_203 (fun v28 hv28 fv28 => ?_)
                    obtain ⟨x29, rfl, ix29⟩ := th_V.int hv28
                    have kx29a : q 13 ≤ x29.toInt := ix29.1
                    have kx29b : x29.toInt ≤ q 13 := ix29.2
                    have ix29 : IV x29 0 1 := iv_w ix29 (qkm_13 hq)
                    refine th_zald S hK hH trf27 km_24 (th_in (hi := 1) ix29 (by decide)) dX11_isFull_206 (fun v30 hv30 => ?_)
                    obtain ⟨x31, rfl, ix31⟩ := th_V.int hv30
                    refine lv_if_eq (tgt := 214) hx hb dX11_isFull_207 (by decide) (fun c32 => ?_) (fun c32 => ?_)
                    · skip
                      have rlc32 : x31.toInt = (0 : Int) := congrArg Int32.toInt c32
                      have ir33 : IV x31 0 0 := iv_eL c32 (iv_c (by decide) : IV 0 0 0)
                      have ir33a := ir33.1; have ir33b := ir33.2
                      refine lv_iconst (v := 0) hx hb dX11_isFull_214 (by decide) ?_
                      exact J215_s0_0 H locs ls  hH hS (lv_sub hl [] rfl)
                    · skip
                      have rlc32 : x31.toInt ≠ (0 : Int) := iv_ne c32
                      have ir34 : IV x31 1 1 := iv_cutL ix31 (iv_c (by decide) : IV 0 0 0) c32 (by decide)
                      have ir34a := ir34.1; have ir34b := ir34.2
                      exact J210 H locs ls  hH hS (lv_sub hl [] rfl)
                · skip
                  have rlc20 : x19.toInt ≠ (0 : Int) := iv_ne c20
                  have ir35 : IV x19 1 1 := iv_cutL ix19 (iv_c (by decide) : IV 0 0 0) c20 (by decide)
                  have ir35a := ir35.1; have ir35b := ir35.2
                  refine lv_aload_n hx hb dX11_isFull_178 rfl (lv_at hl 0 rfl) ?_
                  refine th_get S hK hH inG11 t0 km_0 rfl 31 (by decide) gm_1261 rfl rfl dX11_isFull_179 (fun v36 hv36 fv36 => ?_)
                  obtain ⟨rf37, rfl, trf37⟩ := th_V.ref hv36
                  refine lv_aload_n hx hb dX11_isFull_182 rfl (lv_at hl 0 rfl) ?_
                  refine th_get S hK hH inG11 t0 km_0 rfl 42 (by decide) gm_1272 rfl rfl dX11_isFull_183 (fun v38 hv38 fv38 => ?_)
                  obtain ⟨x39, rfl, ix39⟩ := th_V.int hv38
                  have kx39a : q 13 ≤ x39.toInt := ix39.1
                  have kx39b : x39.toInt ≤ q 13 := ix39.2
                  have ix39 : IV x39 0 1 := iv_w ix39 (qkm_13 hq)
                  refine th_zald S hK hH trf37 km_23 (th_in (hi := 1) ix39 (by decide)) dX11_isFull_186 (fun v40 hv40 => ?_)
                  obtain ⟨x41, rfl, ix41⟩ := th_V.int hv40
                  exact th_zret S hK hH hS hr hlocks ix41 (th_R.i ix41) dX11_isFull_187
              · skip
                have rlc17 : x16.toInt ≠ (0 : Int) := iv_ne c17
                have ir42 : IV x16 1 1 := iv_cutL ix16 (iv_c (by decide) : IV 0 0 0) c17 (by decide)
                have ir42a := ir42.1; have ir42b := ir42.2
                refine lv_aload_n hx hb dX11_isFull_158 rfl (lv_at hl 0 rfl) ?_
                refine th_get S hK hH inG11 t0 km_0 rfl 30 (by decide) gm_1260 rfl rfl dX11_isFull_159 (fun v43 hv43 fv43 => ?_)
                obtain ⟨rf44, rfl, trf44⟩ := th_V.ref hv43
                refine lv_aload_n hx hb dX11_isFull_162 rfl (lv_at hl 0 rfl) ?_
                refine th_get S hK hH inG11 t0 km_0 rfl 42 (by decide) gm_1272 rfl rfl dX11_isFull_163 (fun v45 hv45 fv45 => ?_)
                obtain ⟨x46, rfl, ix46⟩ := th_V.int hv45
                have kx46a : q 13 ≤ x46.toInt := ix46.1
                have kx46b : x46.toInt ≤ q 13 := ix46.2
                have ix46 : IV x46 0 1 := iv_w ix46 (qkm_13 hq)
                refine th_zald S hK hH trf44 km_22 (th_in (hi := 1) ix46 (by decide)) dX11_isFull_166 (fun v47 hv47 => ?_)
                obtain ⟨x48, rfl, ix48⟩ := th_bkU (lo := 0) (hi := 1) hv47 (qkm_12 hq) (qkm_15 hq)
                exact th_zret S hK hH hS hr hlocks ix48 (th_R.i ix48) dX11_isFull_167
            · skip
              have rlc14 : x13.toInt ≠ (0 : Int) := iv_ne c14
              have ir49 : IV x13 1 1 := iv_cutL ix13 (iv_c (by decide) : IV 0 0 0) c14 (by decide)
              have ir49a := ir49.1; have ir49b := ir49.2
              refine lv_aload_n hx hb dX11_isFull_128 rfl (lv_at hl 0 rfl) ?_
              refine th_get S hK hH inG11 t0 km_0 rfl 15 (by decide) gm_1245 rfl rfl dX11_isFull_129 (fun v50 hv50 fv50 => ?_)
              obtain ⟨rf51, rfl, trf51⟩ := th_V.ref hv50
              refine lv_aload_n hx hb dX11_isFull_132 rfl (lv_at hl 0 rfl) ?_
              refine th_get S hK hH inG11 t0 km_0 rfl 42 (by decide) gm_1272 rfl rfl dX11_isFull_133 (fun v52 hv52 fv52 => ?_)
              obtain ⟨x53, rfl, ix53⟩ := th_V.int hv52
              have kx53a : q 13 ≤ x53.toInt := ix53.1
              have kx53b : x53.toInt ≤ q 13 := ix53.2
              have ix53 : IV x53 0 1 := iv_w ix53 (qkm_13 hq)
              refine th_iald S hK hH trf51 km_7 (th_in (hi := 1) ix53 (by decide)) dX11_isFull_136 (fun v54 hv54 => ?_)
              obtain ⟨x55, rfl, ix55⟩ := th_V.int hv54
              refine lv_bipush (v := 6) hx hb dX11_isFull_137 (by decide) ?_
              refine lv_icmp_ne (tgt := 146) hx hb dX11_isFull_139 (by decide) (fun c56 => ?_) (fun c56 => ?_)
              · skip
                have rlc56 : x55.toInt ≠ (6 : Int) := iv_ne c56
                refine lv_iconst (v := 0) hx hb dX11_isFull_146 (by decide) ?_
                exact J147_s0_0 H locs ls  hH hS (lv_sub hl [] rfl)
              · skip
                have rlc56 : x55.toInt = (6 : Int) := congrArg Int32.toInt c56
                have ir57 : IV x55 6 6 := iv_eL c56 (iv_c (by decide) : IV 6 6 6)
                have ir57a := ir57.1; have ir57b := ir57.2
                refine lv_iconst (v := 1) hx hb dX11_isFull_142 (by decide) ?_
                refine lv_goto (tgt := 147) hx hb dX11_isFull_143 (by decide) ?_
                exact J147_s0_1 H locs ls  hH hS (lv_sub hl [] rfl)
          · skip
            have rlc11 : x10.toInt ≠ (0 : Int) := iv_ne c11
            have ir58 : IV x10 1 1 := iv_cutL ix10 (iv_c (by decide) : IV 0 0 0) c11 (by decide)
            have ir58a := ir58.1; have ir58b := ir58.2
            refine lv_aload_n hx hb dX11_isFull_98 rfl (lv_at hl 0 rfl) ?_
            refine th_get S hK hH inG11 t0 km_0 rfl 14 (by decide) gm_1244 rfl rfl dX11_isFull_99 (fun v59 hv59 fv59 => ?_)
            obtain ⟨rf60, rfl, trf60⟩ := th_V.ref hv59
            refine lv_aload_n hx hb dX11_isFull_102 rfl (lv_at hl 0 rfl) ?_
            refine th_get S hK hH inG11 t0 km_0 rfl 42 (by decide) gm_1272 rfl rfl dX11_isFull_103 (fun v61 hv61 fv61 => ?_)
            obtain ⟨x62, rfl, ix62⟩ := th_V.int hv61
            have kx62a : q 13 ≤ x62.toInt := ix62.1
            have kx62b : x62.toInt ≤ q 13 := ix62.2
            have ix62 : IV x62 0 1 := iv_w ix62 (qkm_13 hq)
            refine th_iald S hK hH trf60 km_6 (th_in (hi := 1) ix62 (by decide)) dX11_isFull_106 (fun v63 hv63 => ?_)
            obtain ⟨x64, rfl, ix64⟩ := th_V.int hv63
            refine lv_bipush (v := 12) hx hb dX11_isFull_107 (by decide) ?_
            refine lv_icmp_ne (tgt := 116) hx hb dX11_isFull_109 (by decide) (fun c65 => ?_) (fun c65 => ?_)
            · skip
              have rlc65 : x64.toInt ≠ (12 : Int) := iv_ne c65
              refine lv_iconst (v := 0) hx hb dX11_isFull_116 (by decide) ?_
              exact J117_s0_0 H locs ls  hH hS (lv_sub hl [] rfl)
            · skip
              have rlc65 : x64.toInt = (12 : Int) := congrArg Int32.toInt c65
              have ir66 : IV x64 12 12 := iv_eL c65 (iv_c (by decide) : IV 12 12 12)
              have ir66a := ir66.1; have ir66b := ir66.2
              refine lv_iconst (v := 1) hx hb dX11_isFull_112 (by decide) ?_
              refine lv_goto (tgt := 117) hx hb dX11_isFull_113 (by decide) ?_
              exact J117_s0_1 H locs ls  hH hS (lv_sub hl [] rfl)
        · skip
          have rlc8 : x7.toInt ≠ (0 : Int) := iv_ne c8
          have ir67 : IV x7 1 1 := iv_cutL ix7 (iv_c (by decide) : IV 0 0 0) c8 (by decide)
          have ir67a := ir67.1; have ir67b := ir67.2
          refine lv_aload_n hx hb dX11_isFull_68 rfl (lv_at hl 0 rfl) ?_
          refine th_get S hK hH inG11 t0 km_0 rfl 13 (by decide) gm_1243 rfl rfl dX11_isFull_69 (fun v68 hv68 fv68 => ?_)
          obtain ⟨rf69, rfl, trf69⟩ := th_V.ref hv68
          refine lv_aload_n hx hb dX11_isFull_72 rfl (lv_at hl 0 rfl) ?_
          refine th_get S hK hH inG11 t0 km_0 rfl 42 (by decide) gm_1272 rfl rfl dX11_isFull_73 (fun v70 hv70 fv70 => ?_)
          obtain ⟨x71, rfl, ix71⟩ := th_V.int hv70
          have kx71a : q 13 ≤ x71.toInt := ix71.1
          have kx71b : x71.toInt ≤ q 13 := ix71.2
          have ix71 : IV x71 0 1 := iv_w ix71 (qkm_13 hq)
          refine th_iald S hK hH trf69 km_5 (th_in (hi := 1) ix71 (by decide)) dX11_isFull_76 (fun v72 hv72 => ?_)
          obtain ⟨x73, rfl, ix73⟩ := th_bkU (lo := 0) (hi := 8) hv72 (qkm_18 hq) (qkm_19 hq)
          refine lv_bipush (v := 8) hx hb dX11_isFull_77 (by decide) ?_
          refine lv_icmp_ne (tgt := 86) hx hb dX11_isFull_79 (by decide) (fun c74 => ?_) (fun c74 => ?_)
          · skip
            have rlc74 : x73.toInt ≠ (8 : Int) := iv_ne c74
            have ir75 : IV x73 0 7 := iv_cutH ix73 (iv_c (by decide) : IV 8 8 8) c74 (by decide)
            have ir75a := ir75.1; have ir75b := ir75.2
            refine lv_iconst (v := 0) hx hb dX11_isFull_86 (by decide) ?_
            exact J87_s0_0 H locs ls  hH hS (lv_sub hl [] rfl)
          · skip
            have rlc74 : x73.toInt = (8 : Int) := congrArg Int32.toInt c74
            have ir76 : IV x73 8 8 := ⟨(iv_eL c74 (iv_c (by decide) : IV 8 8 8)).1, ix73.2⟩
            have ir76a := ir76.1; have ir76b := ir76.2
            refine lv_iconst (v := 1) hx hb dX11_isFull_82 (by decide) ?_
            refine lv_goto (tgt := 87) hx hb dX11_isFull_83 (by decide) ?_
            exact J87_s0_1 H locs ls  hH hS (lv_sub hl [] rfl)
      · skip
        have rlc5 : x4.toInt ≠ (0 : Int) := iv_ne c5
        have ir77 : IV x4 1 1 := iv_cutL ix4 (iv_c (by decide) : IV 0 0 0) c5 (by decide)
        have ir77a := ir77.1; have ir77b := ir77.2
        refine lv_aload_n hx hb dX11_isFull_39 rfl (lv_at hl 0 rfl) ?_
        refine th_get S hK hH inG11 t0 km_0 rfl 12 (by decide) gm_1242 rfl rfl dX11_isFull_40 (fun v78 hv78 fv78 => ?_)
        obtain ⟨rf79, rfl, trf79⟩ := th_V.ref hv78
        refine lv_aload_n hx hb dX11_isFull_43 rfl (lv_at hl 0 rfl) ?_
        refine th_get S hK hH inG11 t0 km_0 rfl 42 (by decide) gm_1272 rfl rfl dX11_isFull_44 (fun v80 hv80 fv80 => ?_)
        obtain ⟨x81, rfl, ix81⟩ := th_V.int hv80
        have kx81a : q 13 ≤ x81.toInt := ix81.1
        have kx81b : x81.toInt ≤ q 13 := ix81.2
        have ix81 : IV x81 0 1 := iv_w ix81 (qkm_13 hq)
        refine th_iald S hK hH trf79 km_4 (th_in (hi := 1) ix81 (by decide)) dX11_isFull_47 (fun v82 hv82 => ?_)
        obtain ⟨x83, rfl, ix83⟩ := th_bkU (lo := 0) (hi := 4) hv82 (qkm_11 hq) (qkm_14 hq)
        refine lv_iconst (v := 4) hx hb dX11_isFull_48 (by decide) ?_
        refine lv_icmp_ne (tgt := 56) hx hb dX11_isFull_49 (by decide) (fun c84 => ?_) (fun c84 => ?_)
        · skip
          have rlc84 : x83.toInt ≠ (4 : Int) := iv_ne c84
          have ir85 : IV x83 0 3 := iv_cutH ix83 (iv_c (by decide) : IV 4 4 4) c84 (by decide)
          have ir85a := ir85.1; have ir85b := ir85.2
          refine lv_iconst (v := 0) hx hb dX11_isFull_56 (by decide) ?_
          exact J57_s0_0 H locs ls  hH hS (lv_sub hl [] rfl)
        · skip
          have rlc84 : x83.toInt = (4 : Int) := congrArg Int32.toInt c84
          have ir86 : IV x83 4 4 := ⟨(iv_eL c84 (iv_c (by decide) : IV 4 4 4)).1, ix83.2⟩
          have ir86a := ir86.1; have ir86b := ir86.2
          refine lv_iconst (v := 1) hx hb dX11_isFull_52 (by decide) ?_
          refine lv_goto (tgt := 57) hx hb dX11_isFull_53 (by decide) ?_
          exact J57_s0_1 H locs ls  hH hS (lv_sub hl [] rfl)
    · skip
      have rlc2 : x1.toInt ≠ (0 : Int) := iv_ne c2
      have ir87 : IV x1 1 1 := iv_cutL ix1 (iv_c (by decide) : IV 0 0 0) c2 (by decide)
      have ir87a := ir87.1; have ir87b := ir87.2
      refine lv_aload_n hx hb dX11_isFull_10 rfl (lv_at hl 0 rfl) ?_
      refine th_get S hK hH inG11 t0 km_0 rfl 11 (by decide) gm_1241 rfl rfl dX11_isFull_11 (fun v88 hv88 fv88 => ?_)
      obtain ⟨rf89, rfl, trf89⟩ := th_V.ref hv88
      refine lv_aload_n hx hb dX11_isFull_14 rfl (lv_at hl 0 rfl) ?_
      refine th_get S hK hH inG11 t0 km_0 rfl 42 (by decide) gm_1272 rfl rfl dX11_isFull_15 (fun v90 hv90 fv90 => ?_)
      obtain ⟨x91, rfl, ix91⟩ := th_V.int hv90
      have kx91a : q 13 ≤ x91.toInt := ix91.1
      have kx91b : x91.toInt ≤ q 13 := ix91.2
      have ix91 : IV x91 0 1 := iv_w ix91 (qkm_13 hq)
      refine th_iald S hK hH trf89 km_3 (th_in (hi := 1) ix91 (by decide)) dX11_isFull_18 (fun v92 hv92 => ?_)
      obtain ⟨x93, rfl, ix93⟩ := th_bkU (lo := 0) (hi := 3) hv92 (qkm_16 hq) (qkm_17 hq)
      refine lv_iconst (v := 3) hx hb dX11_isFull_19 (by decide) ?_
      refine lv_icmp_ne (tgt := 27) hx hb dX11_isFull_20 (by decide) (fun c94 => ?_) (fun c94 => ?_)
      · skip
        have rlc94 : x93.toInt ≠ (3 : Int) := iv_ne c94
        have ir95 : IV x93 0 2 := iv_cutH ix93 (iv_c (by decide) : IV 3 3 3) c94 (by decide)
        have ir95a := ir95.1; have ir95b := ir95.2
        refine lv_iconst (v := 0) hx hb dX11_isFull_27 (by decide) ?_
        exact J28_s0_0 H locs ls  hH hS (lv_sub hl [] rfl)
      · skip
        have rlc94 : x93.toInt = (3 : Int) := congrArg Int32.toInt c94
        have ir96 : IV x93 3 3 := ⟨(iv_eL c94 (iv_c (by decide) : IV 3 3 3)).1, ix93.2⟩
        have ir96a := ir96.1; have ir96b := ir96.2
        refine lv_iconst (v := 1) hx hb dX11_isFull_23 (by decide) ?_
        refine lv_goto (tgt := 28) hx hb dX11_isFull_24 (by decide) ?_
        exact J28_s0_1 H locs ls  hH hS (lv_sub hl [] rfl)
  exact J0 s.heap [] ls hH va_S.rf hl

set_option maxRecDepth 100000 in
theorem m_X11_wordHere (l : Launch) (D : va_G) (cT : Nat → ClassId) (T : Nat → Option Nat) (q : Nat → Int) (hT : tokm T) (hq : qkm q) (a0 : Nat) (t0 : T a0 = some 0) : th_Met l D cT T (km q) yX11_wordHere cX11_wordHere 1 (some .int) (rmk 1 22) [.ref a0] (th_R T (some (.inl (0, 122)))) [] := by
  refine th_start (by decide) (Nat.le_of_ble_eq_true rfl) ?_
  intro p e s m below meth c ls S hK hH hr hlocks hnm hl
  have hx := S.1
  have hb := S.2.1
  have hl : lv_has ls 1 [(0, .ref a0)] := hl
  have J94_s0_0 : ∀ (H : Heap) (locs : List Loc) (ls : Array Slot), th_H D cT T (km q) H → va_S (th_A T []) s.heap H locs → lv_has ls 1 [] → W p l e (rmk 1 22) s m [.ref a0].toArray below meth c H locs 0 0 (MQ below (th_Q D cT T (km q) (th_R T (some (.inl (0, 122)))) []) [.ref a0].toArray s 0 0 (th_A T [])) (F0 m 94 ls [.int 0]) := by
    intro H locs ls hH hS hl
    exact th_iret S hK hH hS hr hlocks (th_R.i (iv_w (iv_c (by decide) : IV 0 0 0) (by decide))) dX11_wordHere_94
  have J94_s0_104 : ∀ (H : Heap) (locs : List Loc) (ls : Array Slot), th_H D cT T (km q) H → va_S (th_A T []) s.heap H locs → lv_has ls 1 [] → W p l e (rmk 1 22) s m [.ref a0].toArray below meth c H locs 0 0 (MQ below (th_Q D cT T (km q) (th_R T (some (.inl (0, 122)))) []) [.ref a0].toArray s 0 0 (th_A T [])) (F0 m 94 ls [.int 104]) := by
    intro H locs ls hH hS hl
    exact th_iret S hK hH hS hr hlocks (th_R.i (iv_w (iv_c (by decide) : IV 104 104 104) (by decide))) dX11_wordHere_94
  have J0 : ∀ (H : Heap) (locs : List Loc) (ls : Array Slot), th_H D cT T (km q) H → va_S (th_A T []) s.heap H locs → lv_has ls 1 [(0, .ref a0)] → W p l e (rmk 1 22) s m [.ref a0].toArray below meth c H locs 0 0 (MQ below (th_Q D cT T (km q) (th_R T (some (.inl (0, 122)))) []) [.ref a0].toArray s 0 0 (th_A T [])) (F0 m 0 ls []) := by
    intro H locs ls hH hS hl
    refine lv_aload_n hx hb dX11_wordHere_0 rfl (lv_at hl 0 rfl) ?_
    refine lv_ldc2 (v := 495588568165) hx hb S.2.2.2.1 (S.2.2.2.2 _ gm_1458) dX11_wordHere_1 ?_
    refine th_callVi (n := 1) (As := [.long 495588568165]) S hK hH hS (th_A.sub (by decide)) (m_X11_isWord l D cT T q hT hq a0 t0 (495588568165)) gm_1499 gm_1496 gm_1498 gm_52 gm_124 (by decide +kernel) ⟨rfl, rfl, Nat.le_of_ble_eq_true rfl, Nat.le_of_ble_eq_true rfl⟩ t0 km_0 rfl rfl hl.1 rfl (Nat.le_of_ble_eq_true rfl) dX11_wordHere_4 ⟨Nat.zero_le _, Nat.zero_le _⟩ (fun x1 H locs ix1 hH hS hF1 => ?_)
    refine lv_if_eq (tgt := 13) hx hb dX11_wordHere_7 (by decide) (fun c2 => ?_) (fun c2 => ?_)
    · skip
      have rlc2 : x1.toInt = (0 : Int) := congrArg Int32.toInt c2
      have ir3 : IV x1 0 0 := iv_eL c2 (iv_c (by decide) : IV 0 0 0)
      have ir3a := ir3.1; have ir3b := ir3.2
      refine lv_aload_n hx hb dX11_wordHere_13 rfl (lv_at hl 0 rfl) ?_
      refine lv_ldc2 (v := 2036687218) hx hb S.2.2.2.1 (S.2.2.2.2 _ gm_1471) dX11_wordHere_14 ?_
      refine th_callVi (n := 1) (As := [.long 2036687218]) S hK hH hS (th_A.sub (by decide)) (m_X11_isWord l D cT T q hT hq a0 t0 (2036687218)) gm_1499 gm_1496 gm_1498 gm_52 gm_124 (by decide +kernel) ⟨rfl, rfl, Nat.le_of_ble_eq_true rfl, Nat.le_of_ble_eq_true rfl⟩ t0 km_0 rfl rfl hl.1 rfl (Nat.le_of_ble_eq_true rfl) dX11_wordHere_17 ⟨Nat.zero_le _, Nat.zero_le _⟩ (fun x4 H locs ix4 hH hS hF1 => ?_)
      refine lv_if_eq (tgt := 26) hx hb dX11_wordHere_20 (by decide) (fun c5 => ?_) (fun c5 => ?_)
      · skip
        have rlc5 : x4.toInt = (0 : Int) := congrArg Int32.toInt c5
        have ir6 : IV x4 0 0 := iv_eL c5 (iv_c (by decide) : IV 0 0 0)
        have ir6a := ir6.1; have ir6b := ir6.2
        refine lv_aload_n hx hb dX11_wordHere_26 rfl (lv_at hl 0 rfl) ?_
        refine lv_ldc2 (v := 435426714990) hx hb S.2.2.2.1 (S.2.2.2.2 _ gm_1472) dX11_wordHere_27 ?_
        refine th_callVi (n := 1) (As := [.long 435426714990]) S hK hH hS (th_A.sub (by decide)) (m_X11_isWord l D cT T q hT hq a0 t0 (435426714990)) gm_1499 gm_1496 gm_1498 gm_52 gm_124 (by decide +kernel) ⟨rfl, rfl, Nat.le_of_ble_eq_true rfl, Nat.le_of_ble_eq_true rfl⟩ t0 km_0 rfl rfl hl.1 rfl (Nat.le_of_ble_eq_true rfl) dX11_wordHere_30 ⟨Nat.zero_le _, Nat.zero_le _⟩ (fun x7 H locs ix7 hH hS hF1 => ?_)
        refine lv_if_eq (tgt := 39) hx hb dX11_wordHere_33 (by decide) (fun c8 => ?_) (fun c8 => ?_)
        · skip
          have rlc8 : x7.toInt = (0 : Int) := congrArg Int32.toInt c8
          have ir9 : IV x7 0 0 := iv_eL c8 (iv_c (by decide) : IV 0 0 0)
          have ir9a := ir9.1; have ir9b := ir9.2
          refine lv_aload_n hx hb dX11_wordHere_39 rfl (lv_at hl 0 rfl) ?_
          refine lv_ldc2 (v := 1668246628) hx hb S.2.2.2.1 (S.2.2.2.2 _ gm_1473) dX11_wordHere_40 ?_
          refine th_callVi (n := 1) (As := [.long 1668246628]) S hK hH hS (th_A.sub (by decide)) (m_X11_isWord l D cT T q hT hq a0 t0 (1668246628)) gm_1499 gm_1496 gm_1498 gm_52 gm_124 (by decide +kernel) ⟨rfl, rfl, Nat.le_of_ble_eq_true rfl, Nat.le_of_ble_eq_true rfl⟩ t0 km_0 rfl rfl hl.1 rfl (Nat.le_of_ble_eq_true rfl) dX11_wordHere_43 ⟨Nat.zero_le _, Nat.zero_le _⟩ (fun x10 H locs ix10 hH hS hF1 => ?_)
          refine lv_if_eq (tgt := 52) hx hb dX11_wordHere_46 (by decide) (fun c11 => ?_) (fun c11 => ?_)
          · skip
            have rlc11 : x10.toInt = (0 : Int) := congrArg Int32.toInt c11
            have ir12 : IV x10 0 0 := iv_eL c11 (iv_c (by decide) : IV 0 0 0)
            have ir12a := ir12.1; have ir12b := ir12.2
            refine lv_aload_n hx hb dX11_wordHere_52 rfl (lv_at hl 0 rfl) ?_
            refine lv_ldc2 (v := 1936292453) hx hb S.2.2.2.1 (S.2.2.2.2 _ gm_1463) dX11_wordHere_53 ?_
            refine th_callVi (n := 1) (As := [.long 1936292453]) S hK hH hS (th_A.sub (by decide)) (m_X11_isWord l D cT T q hT hq a0 t0 (1936292453)) gm_1499 gm_1496 gm_1498 gm_52 gm_124 (by decide +kernel) ⟨rfl, rfl, Nat.le_of_ble_eq_true rfl, Nat.le_of_ble_eq_true rfl⟩ t0 km_0 rfl rfl hl.1 rfl (Nat.le_of_ble_eq_true rfl) dX11_wordHere_56 ⟨Nat.zero_le _, Nat.zero_le _⟩ (fun x13 H locs ix13 hH hS hF1 => ?_)
            refine lv_if_eq (tgt := 65) hx hb dX11_wordHere_59 (by decide) (fun c14 => ?_) (fun c14 => ?_)
            · skip
              have rlc14 : x13.toInt = (0 : Int) := congrArg Int32.toInt c14
              have ir15 : IV x13 0 0 := iv_eL c14 (iv_c (by decide) : IV 0 0 0)
              have ir15a := ir15.1; have ir15b := ir15.2
              refine lv_aload_n hx hb dX11_wordHere_65 rfl (lv_at hl 0 rfl) ?_
              refine lv_ldc2 (v := 512970880104) hx hb S.2.2.2.1 (S.2.2.2.2 _ gm_1464) dX11_wordHere_66 ?_
              refine th_callVi (n := 1) (As := [.long 512970880104]) S hK hH hS (th_A.sub (by decide)) (m_X11_isWord l D cT T q hT hq a0 t0 (512970880104)) gm_1499 gm_1496 gm_1498 gm_52 gm_124 (by decide +kernel) ⟨rfl, rfl, Nat.le_of_ble_eq_true rfl, Nat.le_of_ble_eq_true rfl⟩ t0 km_0 rfl rfl hl.1 rfl (Nat.le_of_ble_eq_true rfl) dX11_wordHere_69 ⟨Nat.zero_le _, Nat.zero_le _⟩ (fun x16 H locs ix16 hH hS hF1 => ?_)
              refine lv_if_eq (tgt := 78) hx hb dX11_wordHere_72 (by decide) (fun c17 => ?_) (fun c17 => ?_)
              · skip
                have rlc17 : x16.toInt = (0 : Int) := congrArg Int32.toInt c17
                have ir18 : IV x16 0 0 := iv_eL c17 (iv_c (by decide) : IV 0 0 0)
                have ir18a := ir18.1; have ir18b := ir18.2
                refine lv_aload_n hx hb dX11_wordHere_78 rfl (lv_at hl 0 rfl) ?_
                refine lv_ldc2 (v := 448545973619) hx hb S.2.2.2.1 (S.2.2.2.2 _ gm_1474) dX11_wordHere_79 ?_
                refine th_callVi (n := 1) (As := [.long 448545973619]) S hK hH hS (th_A.sub (by decide)) (m_X11_isWord l D cT T q hT hq a0 t0 (448545973619)) gm_1499 gm_1496 gm_1498 gm_52 gm_124 (by decide +kernel) ⟨rfl, rfl, Nat.le_of_ble_eq_true rfl, Nat.le_of_ble_eq_true rfl⟩ t0 km_0 rfl rfl hl.1 rfl (Nat.le_of_ble_eq_true rfl) dX11_wordHere_82 ⟨Nat.zero_le _, Nat.zero_le _⟩ (fun x19 H locs ix19 hH hS hF1 => ?_)
                refine lv_if_eq (tgt := 93) hx hb dX11_wordHere_85 (by decide) (fun c20 => ?_) (fun c20 => ?_)
                · skip
                  have rlc20 : x19.toInt = (0 : Int) := congrArg Int32.toInt c20
                  have ir21 : IV x19 0 0 := iv_eL c20 (iv_c (by decide) : IV 0 0 0)
                  have ir21a := ir21.1; have ir21b := ir21.2
                  refine lv_iconst (v := 0) hx hb dX11_wordHere_93 (by decide) ?_
                  exact J94_s0_0 H locs ls  hH hS (lv_sub hl [] rfl)
                · skip
                  have rlc20 : x19.toInt ≠ (0 : Int) := iv_ne c20
                  have ir22 : IV x19 1 1 := iv_cutL ix19 (iv_c (by decide) : IV 0 0 0) c20 (by decide)
                  have ir22a := ir22.1; have ir22b := ir22.2
                  refine lv_bipush (v := 104) hx hb dX11_wordHere_88 (by decide) ?_
                  refine lv_goto (tgt := 94) hx hb dX11_wordHere_90 (by decide) ?_
                  exact J94_s0_104 H locs ls  hH hS (lv_sub hl [] rfl)
              · skip
                have rlc17 : x16.toInt ≠ (0 : Int) := iv_ne c17
                have ir23 : IV x16 1 1 := iv_cutL ix16 (iv_c (by decide) : IV 0 0 0) c17 (by decide)
                have ir23a := ir23.1; have ir23b := ir23.2
                refine lv_bipush (v := 119) hx hb dX11_wordHere_75 (by decide) ?_
                exact th_iret S hK hH hS hr hlocks (th_R.i (iv_w (iv_c (by decide) : IV 119 119 119) (by decide))) dX11_wordHere_77
            · skip
              have rlc14 : x13.toInt ≠ (0 : Int) := iv_ne c14
              have ir24 : IV x13 1 1 := iv_cutL ix13 (iv_c (by decide) : IV 0 0 0) c14 (by decide)
              have ir24a := ir24.1; have ir24b := ir24.2
              refine lv_bipush (v := 122) hx hb dX11_wordHere_62 (by decide) ?_
              exact th_iret S hK hH hS hr hlocks (th_R.i (iv_w (iv_c (by decide) : IV 122 122 122) (by decide))) dX11_wordHere_64
          · skip
            have rlc11 : x10.toInt ≠ (0 : Int) := iv_ne c11
            have ir25 : IV x10 1 1 := iv_cutL ix10 (iv_c (by decide) : IV 0 0 0) c11 (by decide)
            have ir25a := ir25.1; have ir25b := ir25.2
            refine lv_bipush (v := 99) hx hb dX11_wordHere_49 (by decide) ?_
            exact th_iret S hK hH hS hr hlocks (th_R.i (iv_w (iv_c (by decide) : IV 99 99 99) (by decide))) dX11_wordHere_51
        · skip
          have rlc8 : x7.toInt ≠ (0 : Int) := iv_ne c8
          have ir26 : IV x7 1 1 := iv_cutL ix7 (iv_c (by decide) : IV 0 0 0) c8 (by decide)
          have ir26a := ir26.1; have ir26b := ir26.2
          refine lv_bipush (v := 101) hx hb dX11_wordHere_36 (by decide) ?_
          exact th_iret S hK hH hS hr hlocks (th_R.i (iv_w (iv_c (by decide) : IV 101 101 101) (by decide))) dX11_wordHere_38
      · skip
        have rlc5 : x4.toInt ≠ (0 : Int) := iv_ne c5
        have ir27 : IV x4 1 1 := iv_cutL ix4 (iv_c (by decide) : IV 0 0 0) c5 (by decide)
        have ir27a := ir27.1; have ir27b := ir27.2
        refine lv_bipush (v := 121) hx hb dX11_wordHere_23 (by decide) ?_
        exact th_iret S hK hH hS hr hlocks (th_R.i (iv_w (iv_c (by decide) : IV 121 121 121) (by decide))) dX11_wordHere_25
    · skip
      have rlc2 : x1.toInt ≠ (0 : Int) := iv_ne c2
      have ir28 : IV x1 1 1 := iv_cutL ix1 (iv_c (by decide) : IV 0 0 0) c2 (by decide)
      have ir28a := ir28.1; have ir28b := ir28.2
      refine lv_bipush (v := 115) hx hb dX11_wordHere_10 (by decide) ?_
      exact th_iret S hK hH hS hr hlocks (th_R.i (iv_w (iv_c (by decide) : IV 115 115 115) (by decide))) dX11_wordHere_12
  exact J0 s.heap [] ls hH va_S.rf hl
