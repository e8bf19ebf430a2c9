theorem dX11_isWord_0 : decode cX11_isWord 0 = .ok (.aload_n 0, 1) := by decide +kernel
theorem dX11_isWord_1 : decode cX11_isWord 1 = .ok (.getfield 215, 3) := by decide +kernel
theorem dX11_isWord_4 : decode cX11_isWord 4 = .ok (.iconst 3, 1) := by decide +kernel
theorem dX11_isWord_5 : decode cX11_isWord 5 = .ok (.if_icmp .ne 16, 3) := by decide +kernel
theorem dX11_isWord_8 : decode cX11_isWord 8 = .ok (.aload_n 0, 1) := by decide +kernel
theorem dX11_isWord_9 : decode cX11_isWord 9 = .ok (.getfield 222, 3) := by decide +kernel
theorem dX11_isWord_12 : decode cX11_isWord 12 = .ok (.lload_n 1, 1) := by decide +kernel
theorem dX11_isWord_13 : decode cX11_isWord 13 = .ok (.lcmp, 1) := by decide +kernel
theorem dX11_isWord_14 : decode cX11_isWord 14 = .ok (.ifCond .ne 7, 3) := by decide +kernel
theorem dX11_isWord_17 : decode cX11_isWord 17 = .ok (.iconst 1, 1) := by decide +kernel
theorem dX11_isWord_18 : decode cX11_isWord 18 = .ok (.goto 4, 3) := by decide +kernel
theorem dX11_isWord_21 : decode cX11_isWord 21 = .ok (.iconst 0, 1) := by decide +kernel
theorem dX11_isWord_22 : decode cX11_isWord 22 = .ok (.ireturn, 1) := by decide +kernel
theorem dX11_misplaced_0 : decode cX11_misplaced 0 = .ok (.aload_n 0, 1) := by decide +kernel
theorem dX11_misplaced_1 : decode cX11_misplaced 1 = .ok (.aload_n 0, 1) := by decide +kernel
theorem dX11_misplaced_2 : decode cX11_misplaced 2 = .ok (.getfield 215, 3) := by decide +kernel
theorem dX11_misplaced_5 : decode cX11_misplaced 5 = .ok (.iconst 1, 1) := by decide +kernel
theorem dX11_misplaced_6 : decode cX11_misplaced 6 = .ok (.if_icmp .ne 7, 3) := by decide +kernel
theorem dX11_misplaced_9 : decode cX11_misplaced 9 = .ok (.iconst 1, 1) := by decide +kernel
theorem dX11_misplaced_10 : decode cX11_misplaced 10 = .ok (.goto 4, 3) := by decide +kernel
theorem dX11_misplaced_13 : decode cX11_misplaced 13 = .ok (.iconst 2, 1) := by decide +kernel
theorem dX11_misplaced_14 : decode cX11_misplaced 14 = .ok (.aload_n 0, 1) := by decide +kernel
theorem dX11_misplaced_15 : decode cX11_misplaced 15 = .ok (.getfield 208, 3) := by decide +kernel
theorem dX11_misplaced_18 : decode cX11_misplaced 18 = .ok (.invokevirtual 239, 3) := by decide +kernel
theorem dX11_misplaced_21 : decode cX11_misplaced 21 = .ok (.return_, 1) := by decide +kernel
theorem dX11_must_0 : decode cX11_must 0 = .ok (.aload_n 0, 1) := by decide +kernel
theorem dX11_must_1 : decode cX11_must 1 = .ok (.invokevirtual 243, 3) := by decide +kernel
theorem dX11_must_4 : decode cX11_must 4 = .ok (.ifCond .ne 4, 3) := by decide +kernel
theorem dX11_must_7 : decode cX11_must 7 = .ok (.return_, 1) := by decide +kernel
theorem dX11_must_8 : decode cX11_must 8 = .ok (.iload_n 1, 1) := by decide +kernel
theorem dX11_must_9 : decode cX11_must 9 = .ok (.ifCond .eq 10, 3) := by decide +kernel
theorem dX11_must_12 : decode cX11_must 12 = .ok (.aload_n 0, 1) := by decide +kernel
theorem dX11_must_13 : decode cX11_must 13 = .ok (.invokevirtual 247, 3) := by decide +kernel
theorem dX11_must_16 : decode cX11_must 16 = .ok (.goto 7, 3) := by decide +kernel
theorem dX11_must_19 : decode cX11_must 19 = .ok (.aload_n 0, 1) := by decide +kernel
theorem dX11_must_20 : decode cX11_must 20 = .ok (.invokevirtual 250, 3) := by decide +kernel
theorem dX11_must_23 : decode cX11_must 23 = .ok (.return_, 1) := by decide +kernel
theorem dX11_numeral_0 : decode cX11_numeral 0 = .ok (.aload_n 0, 1) := by decide +kernel
theorem dX11_numeral_1 : decode cX11_numeral 1 = .ok (.invokevirtual 243, 3) := by decide +kernel
theorem dX11_numeral_4 : decode cX11_numeral 4 = .ok (.ifCond .ne 5, 3) := by decide +kernel
theorem dX11_numeral_7 : decode cX11_numeral 7 = .ok (.iload_n 1, 1) := by decide +kernel
theorem dX11_numeral_8 : decode cX11_numeral 8 = .ok (.ireturn, 1) := by decide +kernel
theorem dX11_numeral_9 : decode cX11_numeral 9 = .ok (.aload_n 0, 1) := by decide +kernel
theorem dX11_numeral_10 : decode cX11_numeral 10 = .ok (.getfield 215, 3) := by decide +kernel
theorem dX11_numeral_13 : decode cX11_numeral 13 = .ok (.iconst 4, 1) := by decide +kernel
theorem dX11_numeral_14 : decode cX11_numeral 14 = .ok (.if_icmp .eq 7, 3) := by decide +kernel
theorem dX11_numeral_17 : decode cX11_numeral 17 = .ok (.aload_n 0, 1) := by decide +kernel
theorem dX11_numeral_18 : decode cX11_numeral 18 = .ok (.invokevirtual 250, 3) := by decide +kernel
theorem dX11_numeral_21 : decode cX11_numeral 21 = .ok (.aload_n 0, 1) := by decide +kernel
theorem dX11_numeral_22 : decode cX11_numeral 22 = .ok (.invokevirtual 243, 3) := by decide +kernel
theorem dX11_numeral_25 : decode cX11_numeral 25 = .ok (.ifCond .eq 28, 3) := by decide +kernel
theorem dX11_numeral_28 : decode cX11_numeral 28 = .ok (.aload_n 0, 1) := by decide +kernel
theorem dX11_numeral_29 : decode cX11_numeral 29 = .ok (.getfield 233, 3) := by decide +kernel
theorem dX11_numeral_32 : decode cX11_numeral 32 = .ok (.iload_n 1, 1) := by decide +kernel
theorem dX11_numeral_33 : decode cX11_numeral 33 = .ok (.if_icmp .lt 11, 3) := by decide +kernel
theorem dX11_numeral_36 : decode cX11_numeral 36 = .ok (.aload_n 0, 1) := by decide +kernel
theorem dX11_numeral_37 : decode cX11_numeral 37 = .ok (.getfield 233, 3) := by decide +kernel
theorem dX11_numeral_40 : decode cX11_numeral 40 = .ok (.iload_n 2, 1) := by decide +kernel
theorem dX11_numeral_41 : decode cX11_numeral 41 = .ok (.if_icmp .le 12, 3) := by decide +kernel
theorem dX11_numeral_44 : decode cX11_numeral 44 = .ok (.aload_n 0, 1) := by decide +kernel
theorem dX11_numeral_45 : decode cX11_numeral 45 = .ok (.iconst 4, 1) := by decide +kernel
theorem dX11_numeral_46 : decode cX11_numeral 46 = .ok (.aload_n 0, 1) := by decide +kernel
theorem dX11_numeral_47 : decode cX11_numeral 47 = .ok (.getfield 208, 3) := by decide +kernel
theorem dX11_numeral_50 : decode cX11_numeral 50 = .ok (.invokevirtual 239, 3) := by decide +kernel
theorem dX11_numeral_53 : decode cX11_numeral 53 = .ok (.aload_n 0, 1) := by decide +kernel
theorem dX11_numeral_54 : decode cX11_numeral 54 = .ok (.getfield 233, 3) := by decide +kernel
theorem dX11_numeral_57 : decode cX11_numeral 57 = .ok (.istore_n 3, 1) := by decide +kernel
theorem dX11_numeral_58 : decode cX11_numeral 58 = .ok (.aload_n 0, 1) := by decide +kernel
theorem dX11_numeral_59 : decode cX11_numeral 59 = .ok (.invokevirtual 243, 3) := by decide +kernel
theorem dX11_numeral_62 : decode cX11_numeral 62 = .ok (.ifCond .eq 7, 3) := by decide +kernel
theorem dX11_numeral_65 : decode cX11_numeral 65 = .ok (.aload_n 0, 1) := by decide +kernel
theorem dX11_numeral_66 : decode cX11_numeral 66 = .ok (.invokevirtual 247, 3) := by decide +kernel
theorem dX11_numeral_69 : decode cX11_numeral 69 = .ok (.aload_n 0, 1) := by decide +kernel
theorem dX11_numeral_70 : decode cX11_numeral 70 = .ok (.invokevirtual 243, 3) := by decide +kernel
theorem dX11_numeral_73 : decode cX11_numeral 73 = .ok (.ifCond .eq 7, 3) := by decide +kernel
theorem dX11_numeral_76 : decode cX11_numeral 76 = .ok (.iload_n 3, 1) := by decide +kernel
theorem dX11_numeral_77 : decode cX11_numeral 77 = .ok (.goto 4, 3) := by decide +kernel
theorem dX11_numeral_80 : decode cX11_numeral 80 = .ok (.iload_n 1, 1) := by decide +kernel
theorem dX11_numeral_81 : decode cX11_numeral 81 = .ok (.ireturn, 1) := by decide +kernel
theorem dX11_after_0 : decode cX11_after 0 = .ok (.aload_n 0, 1) := by decide +kernel
theorem dX11_after_1 : decode cX11_after 1 = .ok (.aload_n 0, 1) := by decide +kernel
theorem dX11_after_2 : decode cX11_after 2 = .ok (.lload_n 1, 1) := by decide +kernel
theorem dX11_after_3 : decode cX11_after 3 = .ok (.invokevirtual 253, 3) := by decide +kernel
theorem dX11_after_6 : decode cX11_after 6 = .ok (.invokevirtual 256, 3) := by decide +kernel
theorem dX11_after_9 : decode cX11_after 9 = .ok (.aload_n 0, 1) := by decide +kernel
theorem dX11_after_10 : decode cX11_after 10 = .ok (.iload_n 3, 1) := by decide +kernel
theorem dX11_after_11 : decode cX11_after 11 = .ok (.iload 4, 2) := by decide +kernel
theorem dX11_after_13 : decode cX11_after 13 = .ok (.invokevirtual 260, 3) := by decide +kernel
theorem dX11_after_16 : decode cX11_after 16 = .ok (.ireturn, 1) := by decide +kernel
theorem dX11_isFull_0 : decode cX11_isFull 0 = .ok (.aload_n 0, 1) := by decide +kernel
theorem dX11_isFull_1 : decode cX11_isFull 1 = .ok (.ldc2_w 161, 3) := by decide +kernel
theorem dX11_isFull_4 : decode cX11_isFull 4 = .ok (.invokevirtual 253, 3) := by decide +kernel
theorem dX11_isFull_7 : decode cX11_isFull 7 = .ok (.ifCond .eq 22, 3) := by decide +kernel
theorem dX11_isFull_10 : decode cX11_isFull 10 = .ok (.aload_n 0, 1) := by decide +kernel
theorem dX11_isFull_11 : decode cX11_isFull 11 = .ok (.getfield 20, 3) := by decide +kernel
theorem dX11_isFull_14 : decode cX11_isFull 14 = .ok (.aload_n 0, 1) := by decide +kernel
theorem dX11_isFull_15 : decode cX11_isFull 15 = .ok (.getfield 264, 3) := by decide +kernel
theorem dX11_isFull_18 : decode cX11_isFull 18 = .ok (.iaload, 1) := by decide +kernel
theorem dX11_isFull_19 : decode cX11_isFull 19 = .ok (.iconst 3, 1) := by decide +kernel
theorem dX11_isFull_20 : decode cX11_isFull 20 = .ok (.if_icmp .ne 7, 3) := by decide +kernel
theorem dX11_isFull_23 : decode cX11_isFull 23 = .ok (.iconst 1, 1) := by decide +kernel
theorem dX11_isFull_24 : decode cX11_isFull 24 = .ok (.goto 4, 3) := by decide +kernel
theorem dX11_isFull_27 : decode cX11_isFull 27 = .ok (.iconst 0, 1) := by decide +kernel
theorem dX11_isFull_28 : decode cX11_isFull 28 = .ok (.ireturn, 1) := by decide +kernel
theorem dX11_isFull_29 : decode cX11_isFull 29 = .ok (.aload_n 0, 1) := by decide +kernel
theorem dX11_isFull_30 : decode cX11_isFull 30 = .ok (.ldc2_w 163, 3) := by decide +kernel
theorem dX11_isFull_33 : decode cX11_isFull 33 = .ok (.invokevirtual 253, 3) := by decide +kernel
theorem dX11_isFull_36 : decode cX11_isFull 36 = .ok (.ifCond .eq 22, 3) := by decide +kernel
theorem dX11_isFull_39 : decode cX11_isFull 39 = .ok (.aload_n 0, 1) := by decide +kernel
theorem dX11_isFull_40 : decode cX11_isFull 40 = .ok (.getfield 24, 3) := by decide +kernel
theorem dX11_isFull_43 : decode cX11_isFull 43 = .ok (.aload_n 0, 1) := by decide +kernel
theorem dX11_isFull_44 : decode cX11_isFull 44 = .ok (.getfield 264, 3) := by decide +kernel
theorem dX11_isFull_47 : decode cX11_isFull 47 = .ok (.iaload, 1) := by decide +kernel
theorem dX11_isFull_48 : decode cX11_isFull 48 = .ok (.iconst 4, 1) := by decide +kernel
theorem dX11_isFull_49 : decode cX11_isFull 49 = .ok (.if_icmp .ne 7, 3) := by decide +kernel
theorem dX11_isFull_52 : decode cX11_isFull 52 = .ok (.iconst 1, 1) := by decide +kernel
theorem dX11_isFull_53 : decode cX11_isFull 53 = .ok (.goto 4, 3) := by decide +kernel
theorem dX11_isFull_56 : decode cX11_isFull 56 = .ok (.iconst 0, 1) := by decide +kernel
theorem dX11_isFull_57 : decode cX11_isFull 57 = .ok (.ireturn, 1) := by decide +kernel
theorem dX11_isFull_58 : decode cX11_isFull 58 = .ok (.aload_n 0, 1) := by decide +kernel
theorem dX11_isFull_59 : decode cX11_isFull 59 = .ok (.ldc2_w 173, 3) := by decide +kernel
theorem dX11_isFull_62 : decode cX11_isFull 62 = .ok (.invokevirtual 253, 3) := by decide +kernel
theorem dX11_isFull_65 : decode cX11_isFull 65 = .ok (.ifCond .eq 23, 3) := by decide +kernel
theorem dX11_isFull_68 : decode cX11_isFull 68 = .ok (.aload_n 0, 1) := by decide +kernel
theorem dX11_isFull_69 : decode cX11_isFull 69 = .ok (.getfield 27, 3) := by decide +kernel
theorem dX11_isFull_72 : decode cX11_isFull 72 = .ok (.aload_n 0, 1) := by decide +kernel
theorem dX11_isFull_73 : decode cX11_isFull 73 = .ok (.getfield 264, 3) := by decide +kernel
theorem dX11_isFull_76 : decode cX11_isFull 76 = .ok (.iaload, 1) := by decide +kernel
theorem dX11_isFull_77 : decode cX11_isFull 77 = .ok (.bipush 8, 2) := by decide +kernel
theorem dX11_isFull_79 : decode cX11_isFull 79 = .ok (.if_icmp .ne 7, 3) := by decide +kernel
theorem dX11_isFull_82 : decode cX11_isFull 82 = .ok (.iconst 1, 1) := by decide +kernel
theorem dX11_isFull_83 : decode cX11_isFull 83 = .ok (.goto 4, 3) := by decide +kernel
theorem dX11_isFull_86 : decode cX11_isFull 86 = .ok (.iconst 0, 1) := by decide +kernel
theorem dX11_isFull_87 : decode cX11_isFull 87 = .ok (.ireturn, 1) := by decide +kernel
theorem dX11_isFull_88 : decode cX11_isFull 88 = .ok (.aload_n 0, 1) := by decide +kernel
theorem dX11_isFull_89 : decode cX11_isFull 89 = .ok (.ldc2_w 181, 3) := by decide +kernel
theorem dX11_isFull_92 : decode cX11_isFull 92 = .ok (.invokevirtual 253, 3) := by decide +kernel
theorem dX11_isFull_95 : decode cX11_isFull 95 = .ok (.ifCond .eq 23, 3) := by decide +kernel
theorem dX11_isFull_98 : decode cX11_isFull 98 = .ok (.aload_n 0, 1) := by decide +kernel
theorem dX11_isFull_99 : decode cX11_isFull 99 = .ok (.getfield 30, 3) := by decide +kernel
theorem dX11_isFull_102 : decode cX11_isFull 102 = .ok (.aload_n 0, 1) := by decide +kernel
theorem dX11_isFull_103 : decode cX11_isFull 103 = .ok (.getfield 264, 3) := by decide +kernel
theorem dX11_isFull_106 : decode cX11_isFull 106 = .ok (.iaload, 1) := by decide +kernel
theorem dX11_isFull_107 : decode cX11_isFull 107 = .ok (.bipush 12, 2) := by decide +kernel
theorem dX11_isFull_109 : decode cX11_isFull 109 = .ok (.if_icmp .ne 7, 3) := by decide +kernel
theorem dX11_isFull_112 : decode cX11_isFull 112 = .ok (.iconst 1, 1) := by decide +kernel
theorem dX11_isFull_113 : decode cX11_isFull 113 = .ok (.goto 4, 3) := by decide +kernel
theorem dX11_isFull_116 : decode cX11_isFull 116 = .ok (.iconst 0, 1) := by decide +kernel
theorem dX11_isFull_117 : decode cX11_isFull 117 = .ok (.ireturn, 1) := by decide +kernel
theorem dX11_isFull_118 : decode cX11_isFull 118 = .ok (.aload_n 0, 1) := by decide +kernel
theorem dX11_isFull_119 : decode cX11_isFull 119 = .ok (.ldc2_w 183, 3) := by decide +kernel
theorem dX11_isFull_122 : decode cX11_isFull 122 = .ok (.invokevirtual 253, 3) := by decide +kernel
theorem dX11_isFull_125 : decode cX11_isFull 125 = .ok (.ifCond .eq 23, 3) := by decide +kernel
theorem dX11_isFull_128 : decode cX11_isFull 128 = .ok (.aload_n 0, 1) := by decide +kernel
theorem dX11_isFull_129 : decode cX11_isFull 129 = .ok (.getfield 33, 3) := by decide +kernel
theorem dX11_isFull_132 : decode cX11_isFull 132 = .ok (.aload_n 0, 1) := by decide +kernel
theorem dX11_isFull_133 : decode cX11_isFull 133 = .ok (.getfield 264, 3) := by decide +kernel
theorem dX11_isFull_136 : decode cX11_isFull 136 = .ok (.iaload, 1) := by decide +kernel
theorem dX11_isFull_137 : decode cX11_isFull 137 = .ok (.bipush 6, 2) := by decide +kernel
theorem dX11_isFull_139 : decode cX11_isFull 139 = .ok (.if_icmp .ne 7, 3) := by decide +kernel
theorem dX11_isFull_142 : decode cX11_isFull 142 = .ok (.iconst 1, 1) := by decide +kernel
theorem dX11_isFull_143 : decode cX11_isFull 143 = .ok (.goto 4, 3) := by decide +kernel
theorem dX11_isFull_146 : decode cX11_isFull 146 = .ok (.iconst 0, 1) := by decide +kernel
theorem dX11_isFull_147 : decode cX11_isFull 147 = .ok (.ireturn, 1) := by decide +kernel
theorem dX11_isFull_148 : decode cX11_isFull 148 = .ok (.aload_n 0, 1) := by decide +kernel
theorem dX11_isFull_149 : decode cX11_isFull 149 = .ok (.ldc2_w 185, 3) := by decide +kernel
theorem dX11_isFull_152 : decode cX11_isFull 152 = .ok (.invokevirtual 253, 3) := by decide +kernel
theorem dX11_isFull_155 : decode cX11_isFull 155 = .ok (.ifCond .eq 13, 3) := by decide +kernel
theorem dX11_isFull_158 : decode cX11_isFull 158 = .ok (.aload_n 0, 1) := by decide +kernel
theorem dX11_isFull_159 : decode cX11_isFull 159 = .ok (.getfield 78, 3) := by decide +kernel
theorem dX11_isFull_162 : decode cX11_isFull 162 = .ok (.aload_n 0, 1) := by decide +kernel
theorem dX11_isFull_163 : decode cX11_isFull 163 = .ok (.getfield 264, 3) := by decide +kernel
theorem dX11_isFull_166 : decode cX11_isFull 166 = .ok (.baload, 1) := by decide +kernel
theorem dX11_isFull_167 : decode cX11_isFull 167 = .ok (.ireturn, 1) := by decide +kernel
theorem dX11_isFull_168 : decode cX11_isFull 168 = .ok (.aload_n 0, 1) := by decide +kernel
theorem dX11_isFull_169 : decode cX11_isFull 169 = .ok (.ldc2_w 187, 3) := by decide +kernel
theorem dX11_isFull_172 : decode cX11_isFull 172 = .ok (.invokevirtual 253, 3) := by decide +kernel
theorem dX11_isFull_175 : decode cX11_isFull 175 = .ok (.ifCond .eq 13, 3) := by decide +kernel
theorem dX11_isFull_178 : decode cX11_isFull 178 = .ok (.aload_n 0, 1) := by decide +kernel
theorem dX11_isFull_179 : decode cX11_isFull 179 = .ok (.getfield 82, 3) := by decide +kernel
theorem dX11_isFull_182 : decode cX11_isFull 182 = .ok (.aload_n 0, 1) := by decide +kernel
theorem dX11_isFull_183 : decode cX11_isFull 183 = .ok (.getfield 264, 3) := by decide +kernel
theorem dX11_isFull_186 : decode cX11_isFull 186 = .ok (.baload, 1) := by decide +kernel
theorem dX11_isFull_187 : decode cX11_isFull 187 = .ok (.ireturn, 1) := by decide +kernel
theorem dX11_isFull_188 : decode cX11_isFull 188 = .ok (.aload_n 0, 1) := by decide +kernel
theorem dX11_isFull_189 : decode cX11_isFull 189 = .ok (.ldc2_w 189, 3) := by decide +kernel
theorem dX11_isFull_192 : decode cX11_isFull 192 = .ok (.invokevirtual 253, 3) := by decide +kernel
theorem dX11_isFull_195 : decode cX11_isFull 195 = .ok (.ifCond .eq 15, 3) := by decide +kernel
theorem dX11_isFull_198 : decode cX11_isFull 198 = .ok (.aload_n 0, 1) := by decide +kernel
theorem dX11_isFull_199 : decode cX11_isFull 199 = .ok (.getfield 85, 3) := by decide +kernel
theorem dX11_isFull_202 : decode cX11_isFull 202 = .ok (.aload_n 0, 1) := by decide +kernel
theorem dX11_isFull_203 : decode cX11_isFull 203 = .ok (.getfield 264, 3) := by decide +kernel
theorem dX11_isFull_206 : decode cX11_isFull 206 = .ok (.baload, 1) := by decide +kernel
theorem dX11_isFull_207 : decode cX11_isFull 207 = .ok (.ifCond .eq 7, 3) := by decide +kernel
theorem dX11_isFull_210 : decode cX11_isFull 210 = .ok (.iconst 1, 1) := by decide +kernel
theorem dX11_isFull_211 : decode cX11_isFull 211 = .ok (.goto 4, 3) := by decide +kernel
theorem dX11_isFull_214 : decode cX11_isFull 214 = .ok (.iconst 0, 1) := by decide +kernel
theorem dX11_isFull_215 : decode cX11_isFull 215 = .ok (.ireturn, 1) := by decide +kernel
theorem dX11_here_0 : decode cX11_here 0 = .ok (.iconst 0, 1) := by decide +kernel
theorem dX11_here_1 : decode cX11_here 1 = .ok (.istore 4, 2) := by decide +kernel
theorem dX11_here_3 : decode cX11_here 3 = .ok (.iload 4, 2) := by decide +kernel
theorem dX11_here_5 : decode cX11_here 5 = .ok (.iload_n 3, 1) := by decide +kernel
theorem dX11_here_6 : decode cX11_here 6 = .ok (.if_icmp .ge 34, 3) := by decide +kernel
theorem dX11_here_9 : decode cX11_here 9 = .ok (.aload_n 0, 1) := by decide +kernel
theorem dX11_here_10 : decode cX11_here 10 = .ok (.getfield 215, 3) := by decide +kernel
theorem dX11_here_13 : decode cX11_here 13 = .ok (.iconst 2, 1) := by decide +kernel
theorem dX11_here_14 : decode cX11_here 14 = .ok (.if_icmp .ne 20, 3) := by decide +kernel
theorem dX11_here_17 : decode cX11_here 17 = .ok (.aload_n 1, 1) := by decide +kernel
theorem dX11_here_18 : decode cX11_here 18 = .ok (.iload_n 2, 1) := by decide +kernel
theorem dX11_here_19 : decode cX11_here 19 = .ok (.iload 4, 2) := by decide +kernel
theorem dX11_here_21 : decode cX11_here 21 = .ok (.iadd, 1) := by decide +kernel
theorem dX11_here_22 : decode cX11_here 22 = .ok (.laload, 1) := by decide +kernel
theorem dX11_here_23 : decode cX11_here 23 = .ok (.aload_n 0, 1) := by decide +kernel
theorem dX11_here_24 : decode cX11_here 24 = .ok (.getfield 222, 3) := by decide +kernel
theorem dX11_here_27 : decode cX11_here 27 = .ok (.lcmp, 1) := by decide +kernel
theorem dX11_here_28 : decode cX11_here 28 = .ok (.ifCond .ne 6, 3) := by decide +kernel
theorem dX11_here_31 : decode cX11_here 31 = .ok (.iload 4, 2) := by decide +kernel
theorem dX11_here_33 : decode cX11_here 33 = .ok (.ireturn, 1) := by decide +kernel
theorem dX11_here_34 : decode cX11_here 34 = .ok (.iinc 4 1, 3) := by decide +kernel
theorem dX11_here_37 : decode cX11_here 37 = .ok (.goto (-34), 3) := by decide +kernel
theorem dX11_here_40 : decode cX11_here 40 = .ok (.iconst (-1), 1) := by decide +kernel
theorem dX11_here_41 : decode cX11_here 41 = .ok (.ireturn, 1) := by decide +kernel
theorem dX11_foodHere_0 : decode cX11_foodHere 0 = .ok (.aload_n 0, 1) := by decide +kernel
theorem dX11_foodHere_1 : decode cX11_foodHere 1 = .ok (.aload_n 0, 1) := by decide +kernel
theorem dX11_foodHere_2 : decode cX11_foodHere 2 = .ok (.getfield 88, 3) := by decide +kernel
theorem dX11_foodHere_5 : decode cX11_foodHere 5 = .ok (.iconst 3, 1) := by decide +kernel
theorem dX11_foodHere_6 : decode cX11_foodHere 6 = .ok (.aload_n 0, 1) := by decide +kernel
theorem dX11_foodHere_7 : decode cX11_foodHere 7 = .ok (.getfield 264, 3) := by decide +kernel
theorem dX11_foodHere_10 : decode cX11_foodHere 10 = .ok (.imul, 1) := by decide +kernel
theorem dX11_foodHere_11 : decode cX11_foodHere 11 = .ok (.aload_n 0, 1) := by decide +kernel
theorem dX11_foodHere_12 : decode cX11_foodHere 12 = .ok (.getfield 20, 3) := by decide +kernel
theorem dX11_foodHere_15 : decode cX11_foodHere 15 = .ok (.aload_n 0, 1) := by decide +kernel
theorem dX11_foodHere_16 : decode cX11_foodHere 16 = .ok (.getfield 264, 3) := by decide +kernel
theorem dX11_foodHere_19 : decode cX11_foodHere 19 = .ok (.iaload, 1) := by decide +kernel
theorem dX11_foodHere_20 : decode cX11_foodHere 20 = .ok (.invokevirtual 304, 3) := by decide +kernel
theorem dX11_foodHere_23 : decode cX11_foodHere 23 = .ok (.ireturn, 1) := by decide +kernel
theorem dX11_fresh_0 : decode cX11_fresh 0 = .ok (.aload_n 0, 1) := by decide +kernel
theorem dX11_fresh_1 : decode cX11_fresh 1 = .ok (.invokevirtual 243, 3) := by decide +kernel
theorem dX11_fresh_4 : decode cX11_fresh 4 = .ok (.ifCond .ne 5, 3) := by decide +kernel
theorem dX11_fresh_7 : decode cX11_fresh 7 = .ok (.lconst 0, 1) := by decide +kernel
theorem dX11_fresh_8 : decode cX11_fresh 8 = .ok (.lreturn, 1) := by decide +kernel
theorem dX11_fresh_9 : decode cX11_fresh 9 = .ok (.aload_n 0, 1) := by decide +kernel
theorem dX11_fresh_10 : decode cX11_fresh 10 = .ok (.getfield 215, 3) := by decide +kernel
theorem dX11_fresh_13 : decode cX11_fresh 13 = .ok (.iconst 2, 1) := by decide +kernel
theorem dX11_fresh_14 : decode cX11_fresh 14 = .ok (.if_icmp .eq 10, 3) := by decide +kernel
theorem dX11_fresh_17 : decode cX11_fresh 17 = .ok (.aload_n 0, 1) := by decide +kernel
theorem dX11_fresh_18 : decode cX11_fresh 18 = .ok (.invokevirtual 250, 3) := by decide +kernel
theorem dX11_fresh_21 : decode cX11_fresh 21 = .ok (.goto 16, 3) := by decide +kernel
theorem dX11_fresh_24 : decode cX11_fresh 24 = .ok (.iload_n 1, 1) := by decide +kernel
theorem dX11_fresh_25 : decode cX11_fresh 25 = .ok (.ifCond .lt 12, 3) := by decide +kernel
theorem dX11_fresh_28 : decode cX11_fresh 28 = .ok (.aload_n 0, 1) := by decide +kernel
theorem dX11_fresh_29 : decode cX11_fresh 29 = .ok (.iconst 3, 1) := by decide +kernel
theorem dX11_fresh_30 : decode cX11_fresh 30 = .ok (.aload_n 0, 1) := by decide +kernel
theorem dX11_fresh_31 : decode cX11_fresh 31 = .ok (.getfield 208, 3) := by decide +kernel
theorem dX11_fresh_34 : decode cX11_fresh 34 = .ok (.invokevirtual 239, 3) := by decide +kernel
theorem dX11_fresh_37 : decode cX11_fresh 37 = .ok (.aload_n 0, 1) := by decide +kernel
theorem dX11_fresh_38 : decode cX11_fresh 38 = .ok (.getfield 222, 3) := by decide +kernel
theorem dX11_fresh_41 : decode cX11_fresh 41 = .ok (.lstore_n 2, 1) := by decide +kernel
theorem dX11_fresh_42 : decode cX11_fresh 42 = .ok (.aload_n 0, 1) := by decide +kernel
theorem dX11_fresh_43 : decode cX11_fresh 43 = .ok (.invokevirtual 243, 3) := by decide +kernel
theorem dX11_fresh_46 : decode cX11_fresh 46 = .ok (.ifCond .eq 7, 3) := by decide +kernel
theorem dX11_fresh_49 : decode cX11_fresh 49 = .ok (.aload_n 0, 1) := by decide +kernel
theorem dX11_fresh_50 : decode cX11_fresh 50 = .ok (.invokevirtual 247, 3) := by decide +kernel
theorem dX11_fresh_53 : decode cX11_fresh 53 = .ok (.lload_n 2, 1) := by decide +kernel
theorem dX11_fresh_54 : decode cX11_fresh 54 = .ok (.lreturn, 1) := by decide +kernel
theorem dX11_mapHere_0 : decode cX11_mapHere 0 = .ok (.aload_n 0, 1) := by decide +kernel
theorem dX11_mapHere_1 : decode cX11_mapHere 1 = .ok (.aload_n 0, 1) := by decide +kernel
theorem dX11_mapHere_2 : decode cX11_mapHere 2 = .ok (.getfield 92, 3) := by decide +kernel
theorem dX11_mapHere_5 : decode cX11_mapHere 5 = .ok (.iconst 4, 1) := by decide +kernel
theorem dX11_mapHere_6 : decode cX11_mapHere 6 = .ok (.aload_n 0, 1) := by decide +kernel
theorem dX11_mapHere_7 : decode cX11_mapHere 7 = .ok (.getfield 264, 3) := by decide +kernel
theorem dX11_mapHere_10 : decode cX11_mapHere 10 = .ok (.imul, 1) := by decide +kernel
theorem dX11_mapHere_11 : decode cX11_mapHere 11 = .ok (.aload_n 0, 1) := by decide +kernel
theorem dX11_mapHere_12 : decode cX11_mapHere 12 = .ok (.getfield 24, 3) := by decide +kernel
theorem dX11_mapHere_15 : decode cX11_mapHere 15 = .ok (.aload_n 0, 1) := by decide +kernel
theorem dX11_mapHere_16 : decode cX11_mapHere 16 = .ok (.getfield 264, 3) := by decide +kernel
theorem dX11_mapHere_19 : decode cX11_mapHere 19 = .ok (.iaload, 1) := by decide +kernel
theorem dX11_mapHere_20 : decode cX11_mapHere 20 = .ok (.invokevirtual 304, 3) := by decide +kernel
theorem dX11_mapHere_23 : decode cX11_mapHere 23 = .ok (.ireturn, 1) := by decide +kernel
theorem dX11_wordHere_0 : decode cX11_wordHere 0 = .ok (.aload_n 0, 1) := by decide +kernel
theorem dX11_wordHere_1 : decode cX11_wordHere 1 = .ok (.ldc2_w 165, 3) := by decide +kernel
theorem dX11_wordHere_4 : decode cX11_wordHere 4 = .ok (.invokevirtual 253, 3) := by decide +kernel
theorem dX11_wordHere_7 : decode cX11_wordHere 7 = .ok (.ifCond .eq 6, 3) := by decide +kernel
theorem dX11_wordHere_10 : decode cX11_wordHere 10 = .ok (.bipush 115, 2) := by decide +kernel
theorem dX11_wordHere_12 : decode cX11_wordHere 12 = .ok (.ireturn, 1) := by decide +kernel
theorem dX11_wordHere_13 : decode cX11_wordHere 13 = .ok (.aload_n 0, 1) := by decide +kernel
theorem dX11_wordHere_14 : decode cX11_wordHere 14 = .ok (.ldc2_w 191, 3) := by decide +kernel
theorem dX11_wordHere_17 : decode cX11_wordHere 17 = .ok (.invokevirtual 253, 3) := by decide +kernel
theorem dX11_wordHere_20 : decode cX11_wordHere 20 = .ok (.ifCond .eq 6, 3) := by decide +kernel
theorem dX11_wordHere_23 : decode cX11_wordHere 23 = .ok (.bipush 121, 2) := by decide +kernel
theorem dX11_wordHere_25 : decode cX11_wordHere 25 = .ok (.ireturn, 1) := by decide +kernel
theorem dX11_wordHere_26 : decode cX11_wordHere 26 = .ok (.aload_n 0, 1) := by decide +kernel
theorem dX11_wordHere_27 : decode cX11_wordHere 27 = .ok (.ldc2_w 193, 3) := by decide +kernel
theorem dX11_wordHere_30 : decode cX11_wordHere 30 = .ok (.invokevirtual 253, 3) := by decide +kernel
theorem dX11_wordHere_33 : decode cX11_wordHere 33 = .ok (.ifCond .eq 6, 3) := by decide +kernel
theorem dX11_wordHere_36 : decode cX11_wordHere 36 = .ok (.bipush 101, 2) := by decide +kernel
theorem dX11_wordHere_38 : decode cX11_wordHere 38 = .ok (.ireturn, 1) := by decide +kernel
theorem dX11_wordHere_39 : decode cX11_wordHere 39 = .ok (.aload_n 0, 1) := by decide +kernel
theorem dX11_wordHere_40 : decode cX11_wordHere 40 = .ok (.ldc2_w 195, 3) := by decide +kernel
theorem dX11_wordHere_43 : decode cX11_wordHere 43 = .ok (.invokevirtual 253, 3) := by decide +kernel
theorem dX11_wordHere_46 : decode cX11_wordHere 46 = .ok (.ifCond .eq 6, 3) := by decide +kernel
theorem dX11_wordHere_49 : decode cX11_wordHere 49 = .ok (.bipush 99, 2) := by decide +kernel
theorem dX11_wordHere_51 : decode cX11_wordHere 51 = .ok (.ireturn, 1) := by decide +kernel
theorem dX11_wordHere_52 : decode cX11_wordHere 52 = .ok (.aload_n 0, 1) := by decide +kernel
theorem dX11_wordHere_53 : decode cX11_wordHere 53 = .ok (.ldc2_w 175, 3) := by decide +kernel
theorem dX11_wordHere_56 : decode cX11_wordHere 56 = .ok (.invokevirtual 253, 3) := by decide +kernel
theorem dX11_wordHere_59 : decode cX11_wordHere 59 = .ok (.ifCond .eq 6, 3) := by decide +kernel
theorem dX11_wordHere_62 : decode cX11_wordHere 62 = .ok (.bipush 122, 2) := by decide +kernel
theorem dX11_wordHere_64 : decode cX11_wordHere 64 = .ok (.ireturn, 1) := by decide +kernel
theorem dX11_wordHere_65 : decode cX11_wordHere 65 = .ok (.aload_n 0, 1) := by decide +kernel
theorem dX11_wordHere_66 : decode cX11_wordHere 66 = .ok (.ldc2_w 177, 3) := by decide +kernel
theorem dX11_wordHere_69 : decode cX11_wordHere 69 = .ok (.invokevirtual 253, 3) := by decide +kernel
theorem dX11_wordHere_72 : decode cX11_wordHere 72 = .ok (.ifCond .eq 6, 3) := by decide +kernel
theorem dX11_wordHere_75 : decode cX11_wordHere 75 = .ok (.bipush 119, 2) := by decide +kernel
theorem dX11_wordHere_77 : decode cX11_wordHere 77 = .ok (.ireturn, 1) := by decide +kernel
theorem dX11_wordHere_78 : decode cX11_wordHere 78 = .ok (.aload_n 0, 1) := by decide +kernel
theorem dX11_wordHere_79 : decode cX11_wordHere 79 = .ok (.ldc2_w 197, 3) := by decide +kernel
theorem dX11_wordHere_82 : decode cX11_wordHere 82 = .ok (.invokevirtual 253, 3) := by decide +kernel
theorem dX11_wordHere_85 : decode cX11_wordHere 85 = .ok (.ifCond .eq 8, 3) := by decide +kernel
theorem dX11_wordHere_88 : decode cX11_wordHere 88 = .ok (.bipush 104, 2) := by decide +kernel
theorem dX11_wordHere_90 : decode cX11_wordHere 90 = .ok (.goto 4, 3) := by decide +kernel
theorem dX11_wordHere_93 : decode cX11_wordHere 93 = .ok (.iconst 0, 1) := by decide +kernel
theorem dX11_wordHere_94 : decode cX11_wordHere 94 = .ok (.ireturn, 1) := by decide +kernel
theorem dX11_rankHere_0 : decode cX11_rankHere 0 = .ok (.aload_n 0, 1) := by decide +kernel
theorem dX11_rankHere_1 : decode cX11_rankHere 1 = .ok (.ldc2_w 201, 3) := by decide +kernel
theorem dX11_rankHere_4 : decode cX11_rankHere 4 = .ok (.invokevirtual 253, 3) := by decide +kernel
theorem dX11_rankHere_7 : decode cX11_rankHere 7 = .ok (.ifCond .eq 5, 3) := by decide +kernel
theorem dX11_rankHere_10 : decode cX11_rankHere 10 = .ok (.iconst 2, 1) := by decide +kernel
theorem dX11_rankHere_11 : decode cX11_rankHere 11 = .ok (.ireturn, 1) := by decide +kernel
theorem dX11_rankHere_12 : decode cX11_rankHere 12 = .ok (.aload_n 0, 1) := by decide +kernel
theorem dX11_rankHere_13 : decode cX11_rankHere 13 = .ok (.ldc2_w 199, 3) := by decide +kernel
theorem dX11_rankHere_16 : decode cX11_rankHere 16 = .ok (.invokevirtual 253, 3) := by decide +kernel
theorem dX11_rankHere_19 : decode cX11_rankHere 19 = .ok (.ifCond .eq 5, 3) := by decide +kernel
theorem dX11_rankHere_22 : decode cX11_rankHere 22 = .ok (.iconst 1, 1) := by decide +kernel
theorem dX11_rankHere_23 : decode cX11_rankHere 23 = .ok (.ireturn, 1) := by decide +kernel
theorem dX11_rankHere_24 : decode cX11_rankHere 24 = .ok (.aload_n 0, 1) := by decide +kernel
theorem dX11_rankHere_25 : decode cX11_rankHere 25 = .ok (.bipush 60, 2) := by decide +kernel
theorem dX11_rankHere_27 : decode cX11_rankHere 27 = .ok (.invokevirtual 301, 3) := by decide +kernel
theorem dX11_rankHere_30 : decode cX11_rankHere 30 = .ok (.ifCond .ne 21, 3) := by decide +kernel
theorem dX11_rankHere_33 : decode cX11_rankHere 33 = .ok (.aload_n 0, 1) := by decide +kernel
theorem dX11_rankHere_34 : decode cX11_rankHere 34 = .ok (.bipush 62, 2) := by decide +kernel
theorem dX11_rankHere_36 : decode cX11_rankHere 36 = .ok (.invokevirtual 301, 3) := by decide +kernel
theorem dX11_rankHere_39 : decode cX11_rankHere 39 = .ok (.ifCond .ne 12, 3) := by decide +kernel
theorem dX11_rankHere_42 : decode cX11_rankHere 42 = .ok (.aload_n 0, 1) := by decide +kernel
theorem dX11_rankHere_43 : decode cX11_rankHere 43 = .ok (.bipush 61, 2) := by decide +kernel
theorem dX11_rankHere_45 : decode cX11_rankHere 45 = .ok (.invokevirtual 301, 3) := by decide +kernel
theorem dX11_rankHere_48 : decode cX11_rankHere 48 = .ok (.ifCond .eq 5, 3) := by decide +kernel
theorem dX11_rankHere_51 : decode cX11_rankHere 51 = .ok (.iconst 4, 1) := by decide +kernel
theorem dX11_rankHere_52 : decode cX11_rankHere 52 = .ok (.ireturn, 1) := by decide +kernel
theorem dX11_rankHere_53 : decode cX11_rankHere 53 = .ok (.aload_n 0, 1) := by decide +kernel
theorem dX11_rankHere_54 : decode cX11_rankHere 54 = .ok (.bipush 43, 2) := by decide +kernel
theorem dX11_rankHere_56 : decode cX11_rankHere 56 = .ok (.invokevirtual 301, 3) := by decide +kernel
theorem dX11_rankHere_59 : decode cX11_rankHere 59 = .ok (.ifCond .ne 12, 3) := by decide +kernel
theorem dX11_rankHere_62 : decode cX11_rankHere 62 = .ok (.aload_n 0, 1) := by decide +kernel
theorem dX11_rankHere_63 : decode cX11_rankHere 63 = .ok (.bipush 45, 2) := by decide +kernel
theorem dX11_rankHere_65 : decode cX11_rankHere 65 = .ok (.invokevirtual 301, 3) := by decide +kernel
theorem dX11_rankHere_68 : decode cX11_rankHere 68 = .ok (.ifCond .eq 5, 3) := by decide +kernel
theorem dX11_rankHere_71 : decode cX11_rankHere 71 = .ok (.iconst 5, 1) := by decide +kernel
theorem dX11_rankHere_72 : decode cX11_rankHere 72 = .ok (.ireturn, 1) := by decide +kernel
theorem dX11_rankHere_73 : decode cX11_rankHere 73 = .ok (.aload_n 0, 1) := by decide +kernel
theorem dX11_rankHere_74 : decode cX11_rankHere 74 = .ok (.bipush 42, 2) := by decide +kernel
theorem dX11_rankHere_76 : decode cX11_rankHere 76 = .ok (.invokevirtual 301, 3) := by decide +kernel
theorem dX11_rankHere_79 : decode cX11_rankHere 79 = .ok (.ifCond .ne 21, 3) := by decide +kernel
theorem dX11_rankHere_82 : decode cX11_rankHere 82 = .ok (.aload_n 0, 1) := by decide +kernel
theorem dX11_rankHere_83 : decode cX11_rankHere 83 = .ok (.bipush 47, 2) := by decide +kernel
theorem dX11_rankHere_85 : decode cX11_rankHere 85 = .ok (.invokevirtual 301, 3) := by decide +kernel
theorem dX11_rankHere_88 : decode cX11_rankHere 88 = .ok (.ifCond .ne 12, 3) := by decide +kernel
theorem dX11_rankHere_91 : decode cX11_rankHere 91 = .ok (.aload_n 0, 1) := by decide +kernel
theorem dX11_rankHere_92 : decode cX11_rankHere 92 = .ok (.bipush 37, 2) := by decide +kernel
theorem dX11_rankHere_94 : decode cX11_rankHere 94 = .ok (.invokevirtual 301, 3) := by decide +kernel
theorem dX11_rankHere_97 : decode cX11_rankHere 97 = .ok (.ifCond .eq 8, 3) := by decide +kernel
theorem dX11_rankHere_100 : decode cX11_rankHere 100 = .ok (.bipush 6, 2) := by decide +kernel
theorem dX11_rankHere_102 : decode cX11_rankHere 102 = .ok (.goto 4, 3) := by decide +kernel
theorem dX11_rankHere_105 : decode cX11_rankHere 105 = .ok (.iconst 0, 1) := by decide +kernel
theorem dX11_rankHere_106 : decode cX11_rankHere 106 = .ok (.ireturn, 1) := by decide +kernel
set_option maxHeartbeats 20000000 in
set_option maxRecDepth 100000 in
theorem m_X11_isWord (l : Launch) (D : va_G) (cT : Nat → ClassId) (T : Nat → Option Nat) (q : Nat → Int) (hT : tokm T) (hq : qkm q) (a0 : Nat) (t0 : T a0 = some 0) (y1 : Int64) : th_Met l D cT T (km q) yX11_isWord cX11_isWord 3 (some .boolean) (rmk 0 0) [.ref a0, .long y1] (th_RP 0 1 (fun r => (r.toInt ≠ 0 → q 29 = 3 ∧ q 31 = y1.toInt) ∧ (r.toInt = 0 → q 29 ≠ 3 ∨ q 31 ≠ y1.toInt))) [] := by
  refine th_start (by decide) (Nat.le_of_ble_eq_true rfl) ?_
  intro p e s m below meth c ls S hK hH hr hlocks hnm hl
  have hx := S.1
  have hb := S.2.1
  have hl : lv_has ls 3 [(0, .ref a0), (1, .long y1)] := hl
  have J22_s0_0 : ∀ (H : Heap) (locs : List Loc) (ls : Array Slot), ((0 : Int) ≠ 0 → q 29 = 3 ∧ q 31 = y1.toInt) → ((0 : Int) = 0 → q 29 ≠ 3 ∨ q 31 ≠ y1.toInt) → th_H D cT T (km q) H → va_S (th_A T []) s.heap H locs → lv_has ls 3 [] → W p l e (rmk 0 0) s m [.ref a0, .long y1].toArray below meth c H locs 0 0 (MQ below (th_Q D cT T (km q) (th_RP 0 1 (fun r => (r.toInt ≠ 0 → q 29 = 3 ∧ q 31 = y1.toInt) ∧ (r.toInt = 0 → q 29 ≠ 3 ∨ q 31 ≠ y1.toInt))) []) [.ref a0, .long y1].toArray s 0 0 (th_A T [])) (F0 m 22 ls [.int 0]) := by
    intro H locs ls v22_inv0 v22_inv1 hH hS hl
    exact th_zret S hK hH hS hr hlocks (iv_w (iv_c (by decide) : IV 0 0 0) (by decide)) (th_RP.i (iv_w (iv_c (by decide) : IV 0 0 0) (by decide)) ⟨(show (0 : Int) ≠ 0 → q 29 = 3 ∧ q 31 = y1.toInt by first | assumption | (first | omega | (intro z; omega))), (show (0 : Int) = 0 → q 29 ≠ 3 ∨ q 31 ≠ y1.toInt by first | assumption | (first | omega | (intro z; omega)))⟩) dX11_isWord_22
  have J22_s0_1 : ∀ (H : Heap) (locs : List Loc) (ls : Array Slot), ((1 : Int) ≠ 0 → q 29 = 3 ∧ q 31 = y1.toInt) → ((1 : Int) = 0 → q 29 ≠ 3 ∨ q 31 ≠ y1.toInt) → th_H D cT T (km q) H → va_S (th_A T []) s.heap H locs → lv_has ls 3 [] → W p l e (rmk 0 0) s m [.ref a0, .long y1].toArray below meth c H locs 0 0 (MQ below (th_Q D cT T (km q) (th_RP 0 1 (fun r => (r.toInt ≠ 0 → q 29 = 3 ∧ q 31 = y1.toInt) ∧ (r.toInt = 0 → q 29 ≠ 3 ∨ q 31 ≠ y1.toInt))) []) [.ref a0, .long y1].toArray s 0 0 (th_A T [])) (F0 m 22 ls [.int 1]) := by
    intro H locs ls v22_inv0 v22_inv1 hH hS hl
    exact th_zret S hK hH hS hr hlocks (iv_w (iv_c (by decide) : IV 1 1 1) (by decide)) (th_RP.i (iv_w (iv_c (by decide) : IV 1 1 1) (by decide)) ⟨(show (1 : Int) ≠ 0 → q 29 = 3 ∧ q 31 = y1.toInt by first | assumption | (first | omega | (intro z; omega))), (show (1 : Int) = 0 → q 29 ≠ 3 ∨ q 31 ≠ y1.toInt by first | assumption | (first | omega | (intro z; omega)))⟩) dX11_isWord_22
  have J21 : ∀ (H : Heap) (locs : List Loc) (ls : Array Slot), (q 29 ≠ 3 ∨ q 31 ≠ y1.toInt) → th_H D cT T (km q) H → va_S (th_A T []) s.heap H locs → lv_has ls 3 [] → W p l e (rmk 0 0) s m [.ref a0, .long y1].toArray below meth c H locs 0 0 (MQ below (th_Q D cT T (km q) (th_RP 0 1 (fun r => (r.toInt ≠ 0 → q 29 = 3 ∧ q 31 = y1.toInt) ∧ (r.toInt = 0 → q 29 ≠ 3 ∨ q 31 ≠ y1.toInt))) []) [.ref a0, .long y1].toArray s 0 0 (th_A T [])) (F0 m 21 ls []) := by
    intro H locs ls v21_inv0 hH hS hl
    refine lv_iconst (v := 0) hx hb dX11_isWord_21 (by decide) ?_
    exact J22_s0_0 H locs ls (show (0 : Int) ≠ 0 → q 29 = 3 ∧ q 31 = y1.toInt by first | omega | (intro z; omega)) (show (0 : Int) = 0 → q 29 ≠ 3 ∨ q 31 ≠ y1.toInt by first | omega | (intro z; omega)) hH hS (lv_sub hl [] rfl)
  have J0 : ∀ (H : Heap) (locs : List Loc) (ls : Array Slot), th_H D cT T (km q) H → va_S (th_A T []) s.heap H locs → lv_has ls 3 [(0, .ref a0), (1, .long y1)] → W p l e (rmk 0 0) s m [.ref a0, .long y1].toArray below meth c H locs 0 0 (MQ below (th_Q D cT T (km q) (th_RP 0 1 (fun r => (r.toInt ≠ 0 → q 29 = 3 ∧ q 31 = y1.toInt) ∧ (r.toInt = 0 → q 29 ≠ 3 ∨ q 31 ≠ y1.toInt))) []) [.ref a0, .long y1].toArray s 0 0 (th_A T [])) (F0 m 0 ls []) := by
    intro H locs ls hH hS hl
    refine lv_aload_n hx hb dX11_isWord_0 rfl (lv_at hl 0 rfl) ?_
    refine th_get S hK hH inG11 t0 km_0 rfl 8 (by decide) gm_1238 rfl rfl dX11_isWord_1 (fun v1 hv1 fv1 => ?_)
    obtain ⟨x2, rfl, ix2⟩ := th_V.int hv1
    have kx2a : q 29 ≤ x2.toInt := ix2.1
    have kx2b : x2.toInt ≤ q 29 := ix2.2
    have ix2 : IV x2 0 5 := iv_w ix2 (qkm_29 hq)
    refine lv_iconst (v := 3) hx hb dX11_isWord_4 (by decide) ?_
    refine lv_icmp_ne (tgt := 21) hx hb dX11_isWord_5 (by decide) (fun c3 => ?_) (fun c3 => ?_)
    · skip
      have rlc3 : x2.toInt ≠ (3 : Int) := iv_ne c3
      exact J21 H locs ls (show q 29 ≠ 3 ∨ q 31 ≠ y1.toInt by omega) hH hS (lv_sub hl [] rfl)
    · skip
      have rlc3 : x2.toInt = (3 : Int) := congrArg Int32.toInt c3
      have ir4 : IV x2 3 3 := iv_eL c3 (iv_c (by decide) : IV 3 3 3)
      have ir4a := ir4.1; have ir4b := ir4.2
      refine lv_aload_n hx hb dX11_isWord_8 rfl (lv_at hl 0 rfl) ?_
      refine th_getM S hK hH inG11 t0 km_0 rfl 10 (by decide) gm_1240 rfl rfl dX11_isWord_9 (fun v5 hv5 wv5 => ?_)
      obtain ⟨lg6, rfl⟩ := th_V.long hv5
      have klg6 : lg6.toInt = q 31 := by obtain ⟨vs, z1, z2⟩ := wv5; exact z2 _ z1
      refine lv_lload_n hx hb dX11_isWord_12 rfl (lv_at hl 1 rfl) ?_
      refine W.lcmp hx hb dX11_isWord_13 ?_
      refine lv_topi (fun x7 ex7 => ?_)
      have ix7 := iv_top x7
      have ax7 : x7.toInt = 0 → lg6.toInt = y1.toInt := lc_eq ex7
      have bx7 : x7.toInt ≠ 0 → lg6.toInt ≠ y1.toInt := lc_ne ex7
      refine lv_if_ne (tgt := 21) hx hb dX11_isWord_14 (by decide) (fun c8 => ?_) (fun c8 => ?_)
      · skip
        have rlc8 : x7.toInt ≠ (0 : Int) := iv_ne c8
        exact J21 H locs ls (show q 29 ≠ 3 ∨ q 31 ≠ y1.toInt by omega) hH hS (lv_sub hl [] rfl)
      · skip
        have rlc8 : x7.toInt = (0 : Int) := congrArg Int32.toInt c8
        have ir9 : IV x7 0 0 := iv_eL c8 (iv_c (by decide) : IV 0 0 0)
        have ir9a := ir9.1; have ir9b := ir9.2
        refine lv_iconst (v := 1) hx hb dX11_isWord_17 (by decide) ?_
        refine lv_goto (tgt := 22) hx hb dX11_isWord_18 (by decide) ?_
        exact J22_s0_1 H locs ls (show (1 : Int) ≠ 0 → q 29 = 3 ∧ q 31 = y1.toInt by first | omega | (intro z; omega)) (show (1 : Int) = 0 → q 29 ≠ 3 ∨ q 31 ≠ y1.toInt by first | omega | (intro z; omega)) hH hS (lv_sub hl [] rfl)
  exact J0 s.heap [] ls hH va_S.rf hl

set_option maxHeartbeats 20000000 in
set_option maxRecDepth 100000 in
theorem m_X11_misplaced (l : Launch) (D : va_G) (cT : Nat → ClassId) (T : Nat → Option Nat) (q : Nat → Int) (hT : tokm T) (hq : qkm q) (a0 : Nat) (t0 : T a0 = some 0) : th_MetM l D cT T q yX11_misplaced cX11_misplaced 1 none (rmk 1 22) [.ref a0] (fun v q2 => v = none ∧ qkm q2 ∧ fr [30] q q2 ∧ (q2 30 ≠ 0)) [0] := by
  refine th_startM (by decide) (Nat.le_of_ble_eq_true rfl) ?_
  intro p e s m below meth c ls S hK hH hr hlocks hnm hl
  have hx := S.1
  have hb := S.2.1
  have hl : lv_has ls 1 [(0, .ref a0)] := hl
  have J14_s1_1 : ∀ (H : Heap) (locs : List Loc) (ls : Array Slot), th_H D cT T (km q) H → va_S (th_A T [0]) s.heap H locs → lv_has ls 1 [(0, .ref a0)] → W p l e (rmk 1 22) s m [.ref a0].toArray below meth c H locs 0 0 (MQ below (th_QM D cT T (fun v q2 => v = none ∧ qkm q2 ∧ fr [30] q q2 ∧ (q2 30 ≠ 0)) [0]) [.ref a0].toArray s 0 0 (th_A T [0])) (F0 m 14 ls [.int 1, .ref a0]) := by
    intro H locs ls hH hS hl
    refine lv_aload_n hx hb dX11_misplaced_14 rfl (lv_at hl 0 rfl) ?_
    refine th_get S hK hH inG11 t0 km_0 rfl 6 (by decide) gm_1236 rfl rfl dX11_misplaced_15 (fun v1 hv1 fv1 => ?_)
    obtain ⟨x2, rfl, ix2⟩ := th_V.int hv1
    have kx2a : q 27 ≤ x2.toInt := ix2.1
    have kx2b : x2.toInt ≤ q 27 := ix2.2
    have ix2 : IV x2 0 1600 := iv_w ix2 (qkm_27 hq)
    refine th_callVM (n := 2) (As := [.int 1, .int x2]) S hK hH hS (th_A.sub (by decide)) (m_X11_fails l D cT T q hT hq a0 t0 (1) (iv_w (iv_c (by decide) : IV 1 1 1) (by decide)) (x2) (iv_top _)) gm_1507 gm_1504 gm_1506 gm_54 gm_124 (by decide +kernel) ⟨rfl, rfl, Nat.le_of_ble_eq_true rfl, Nat.le_of_ble_eq_true rfl⟩ t0 km_0 rfl rfl hl.1 rfl (Nat.le_of_ble_eq_true rfl) dX11_misplaced_18 ⟨Nat.zero_le _, Nat.zero_le _⟩ (fun wq3 q3 H locs hEq3 hH hS hF1 => ?_)
    obtain ⟨rfl, hqq3, g0q3, pq3_0⟩ := hEq3
    show W p l e (rmk 1 22) s m [.ref a0].toArray below meth c H locs 0 0 (MQ below (th_QM D cT T (fun v q2 => v = none ∧ qkm q2 ∧ fr [30] q q2 ∧ (q2 30 ≠ 0)) [0]) [.ref a0].toArray s 0 0 (th_A T [0])) (F0 m 21 ls [])
    have pq3_0 : q3 30 ≠ 0 := pq3_0
    have h0q3 : fr [30] q q3 := fr_tr fr_rf g0q3 (by decide)
    exact th_vretM S hK hH hS hr hlocks ⟨rfl, hqq3, h0q3, (show q3 30 ≠ 0 by omega)⟩ dX11_misplaced_21
  have J14_s1_2 : ∀ (H : Heap) (locs : List Loc) (ls : Array Slot), th_H D cT T (km q) H → va_S (th_A T [0]) s.heap H locs → lv_has ls 1 [(0, .ref a0)] → W p l e (rmk 1 22) s m [.ref a0].toArray below meth c H locs 0 0 (MQ below (th_QM D cT T (fun v q2 => v = none ∧ qkm q2 ∧ fr [30] q q2 ∧ (q2 30 ≠ 0)) [0]) [.ref a0].toArray s 0 0 (th_A T [0])) (F0 m 14 ls [.int 2, .ref a0]) := by
    intro H locs ls hH hS hl
    refine lv_aload_n hx hb dX11_misplaced_14 rfl (lv_at hl 0 rfl) ?_
    refine th_get S hK hH inG11 t0 km_0 rfl 6 (by decide) gm_1236 rfl rfl dX11_misplaced_15 (fun v4 hv4 fv4 => ?_)
    obtain ⟨x5, rfl, ix5⟩ := th_V.int hv4
    have kx5a : q 27 ≤ x5.toInt := ix5.1
    have kx5b : x5.toInt ≤ q 27 := ix5.2
    have ix5 : IV x5 0 1600 := iv_w ix5 (qkm_27 hq)
    refine th_callVM (n := 2) (As := [.int 2, .int x5]) S hK hH hS (th_A.sub (by decide)) (m_X11_fails l D cT T q hT hq a0 t0 (2) (iv_w (iv_c (by decide) : IV 2 2 2) (by decide)) (x5) (iv_top _)) gm_1507 gm_1504 gm_1506 gm_54 gm_124 (by decide +kernel) ⟨rfl, rfl, Nat.le_of_ble_eq_true rfl, Nat.le_of_ble_eq_true rfl⟩ t0 km_0 rfl rfl hl.1 rfl (Nat.le_of_ble_eq_true rfl) dX11_misplaced_18 ⟨Nat.zero_le _, Nat.zero_le _⟩ (fun wq6 q6 H locs hEq6 hH hS hF1 => ?_)
    obtain ⟨rfl, hqq6, g0q6, pq6_0⟩ := hEq6
    show W p l e (rmk 1 22) s m [.ref a0].toArray below meth c H locs 0 0 (MQ below (th_QM D cT T (fun v q2 => v = none ∧ qkm q2 ∧ fr [30] q q2 ∧ (q2 30 ≠ 0)) [0]) [.ref a0].toArray s 0 0 (th_A T [0])) (F0 m 21 ls [])
    have pq6_0 : q6 30 ≠ 0 := pq6_0
    have h0q6 : fr [30] q q6 := fr_tr fr_rf g0q6 (by decide)
    exact th_vretM S hK hH hS hr hlocks ⟨rfl, hqq6, h0q6, (show q6 30 ≠ 0 by omega)⟩ dX11_misplaced_21
  have J0 : ∀ (H : Heap) (locs : List Loc) (ls : Array Slot), th_H D cT T (km q) H → va_S (th_A T [0]) s.heap H locs → lv_has ls 1 [(0, .ref a0)] → W p l e (rmk 1 22) s m [.ref a0].toArray below meth c H locs 0 0 (MQ below (th_QM D cT T (fun v q2 => v = none ∧ qkm q2 ∧ fr [30] q q2 ∧ (q2 30 ≠ 0)) [0]) [.ref a0].toArray s 0 0 (th_A T [0])) (F0 m 0 ls []) := by
    intro H locs ls hH hS hl
    refine lv_aload_n hx hb dX11_misplaced_0 rfl (lv_at hl 0 rfl) ?_
    refine lv_aload_n hx hb dX11_misplaced_1 rfl (lv_at hl 0 rfl) ?_
    refine th_get S hK hH inG11 t0 km_0 rfl 8 (by decide) gm_1238 rfl rfl dX11_misplaced_2 (fun v7 hv7 fv7 => ?_)
    obtain ⟨x8, rfl, ix8⟩ := th_V.int hv7
    have kx8a : q 29 ≤ x8.toInt := ix8.1
    have kx8b : x8.toInt ≤ q 29 := ix8.2
    have ix8 : IV x8 0 5 := iv_w ix8 (qkm_29 hq)
    refine lv_iconst (v := 1) hx hb dX11_misplaced_5 (by decide) ?_
    refine lv_icmp_ne (tgt := 13) hx hb dX11_misplaced_6 (by decide) (fun c9 => ?_) (fun c9 => ?_)
    · skip
      have rlc9 : x8.toInt ≠ (1 : Int) := iv_ne c9
      refine lv_iconst (v := 2) hx hb dX11_misplaced_13 (by decide) ?_
      exact J14_s1_2 H locs ls  hH hS (lv_sub hl [0] rfl)
    · skip
      have rlc9 : x8.toInt = (1 : Int) := congrArg Int32.toInt c9
      have ir10 : IV x8 1 1 := iv_eL c9 (iv_c (by decide) : IV 1 1 1)
      have ir10a := ir10.1; have ir10b := ir10.2
      refine lv_iconst (v := 1) hx hb dX11_misplaced_9 (by decide) ?_
      refine lv_goto (tgt := 14) hx hb dX11_misplaced_10 (by decide) ?_
      exact J14_s1_1 H locs ls  hH hS (lv_sub hl [0] rfl)
  exact J0 s.heap [] ls hH va_S.rf hl

set_option maxHeartbeats 20000000 in
set_option maxRecDepth 100000 in
theorem m_X11_must (l : Launch) (D : va_G) (cT : Nat → ClassId) (T : Nat → Option Nat) (q : Nat → Int) (hT : tokm T) (hq : qkm q) (a0 : Nat) (t0 : T a0 = some 0) (y1 : Int32) (j1 : IV y1 0 1) (hp0 : (q 29 = 0 ∧ q 27 = q 26 ∧ q 28 = q 26) ∨ (1 ≤ q 29 ∧ q 27 < q 28 ∧ q 28 ≤ q 26)) : th_MetM l D cT T q yX11_must cX11_must 2 none (rmk 2 44) [.ref a0, .int y1] (fun v q2 => v = none ∧ qkm q2 ∧ fr [27, 28, 29, 30, 31] q q2 ∧ ((q2 29 = 0 ∧ q2 27 = q2 26 ∧ q2 28 = q2 26) ∨ (1 ≤ q2 29 ∧ q2 27 < q2 28 ∧ q2 28 ≤ q2 26)) ∧ (q2 30 = 0 → q2 29 = 3 → sg q2 (q2 28) < 97 ∨ 122 < sg q2 (q2 28)) ∧ (q2 30 = 0 → q2 29 = 3 → q2 31 = 7237492 → q2 27 + 3 ≤ q2 28) ∧ (q 27 ≤ q2 27) ∧ (q2 30 = 0 → q 30 = 0 ∧ y1.toInt ≠ 0 ∧ q 28 ≤ q2 27)) [0] := by
  refine th_startM (by decide) (Nat.le_of_ble_eq_true rfl) ?_
  intro p e s m below meth c ls S hK hH hr hlocks hnm hl
  have hx := S.1
  have hb := S.2.1
  have l1y1 := j1.1; have l2y1 := j1.2
  have hl : lv_has ls 2 [(0, .ref a0), (1, .int y1)] := hl
  have J23 : ∀ (q23 : Nat → Int) (H : Heap) (locs : List Loc) (ls : Array Slot), qkm q23 → fr [27, 28, 29, 30, 31] q q23 → ((q23 29 = 0 ∧ q23 27 = q23 26 ∧ q23 28 = q23 26) ∨ (1 ≤ q23 29 ∧ q23 27 < q23 28 ∧ q23 28 ≤ q23 26)) → (q23 30 = 0 → q23 29 = 3 → sg q23 (q23 28) < 97 ∨ 122 < sg q23 (q23 28)) → (q23 30 = 0 → q23 29 = 3 → q23 31 = 7237492 → q23 27 + 3 ≤ q23 28) → (q 27 ≤ q23 27) → (q23 30 = 0 → q 30 = 0 ∧ y1.toInt ≠ 0 ∧ q 28 ≤ q23 27) → th_H D cT T (km q23) H → va_S (th_A T [0]) s.heap H locs → lv_has ls 2 [] → W p l e (rmk 2 44) s m [.ref a0, .int y1].toArray below meth c H locs 0 0 (MQ below (th_QM D cT T (fun v q2 => v = none ∧ qkm q2 ∧ fr [27, 28, 29, 30, 31] q q2 ∧ ((q2 29 = 0 ∧ q2 27 = q2 26 ∧ q2 28 = q2 26) ∨ (1 ≤ q2 29 ∧ q2 27 < q2 28 ∧ q2 28 ≤ q2 26)) ∧ (q2 30 = 0 → q2 29 = 3 → sg q2 (q2 28) < 97 ∨ 122 < sg q2 (q2 28)) ∧ (q2 30 = 0 → q2 29 = 3 → q2 31 = 7237492 → q2 27 + 3 ≤ q2 28) ∧ (q 27 ≤ q2 27) ∧ (q2 30 = 0 → q 30 = 0 ∧ y1.toInt ≠ 0 ∧ q 28 ≤ q2 27)) [0]) [.ref a0, .int y1].toArray s 0 0 (th_A T [0])) (F0 m 23 ls []) := by
    intro q23 H locs ls hq23 h023 v23_inv0 v23_inv1 v23_inv2 v23_inv3 v23_inv4 hH hS hl
    have w23_26 : q23 26 = q 26 := h023 26 (by decide) (Or.inl (by decide))
    exact th_vretM S hK hH hS hr hlocks ⟨rfl, hq23, h023, (show (q23 29 = 0 ∧ q23 27 = q23 26 ∧ q23 28 = q23 26) ∨ (1 ≤ q23 29 ∧ q23 27 < q23 28 ∧ q23 28 ≤ q23 26) by omega), (show q23 30 = 0 → q23 29 = 3 → sg q23 (q23 28) < 97 ∨ 122 < sg q23 (q23 28) by first | assumption | (intro z; exact absurd z (by omega)) | (intro _; assumption)), (show q23 30 = 0 → q23 29 = 3 → q23 31 = 7237492 → q23 27 + 3 ≤ q23 28 by first | assumption | omega), (show q 27 ≤ q23 27 by omega), (show q23 30 = 0 → q 30 = 0 ∧ y1.toInt ≠ 0 ∧ q 28 ≤ q23 27 by omega)⟩ dX11_must_23
  have J0 : ∀ (H : Heap) (locs : List Loc) (ls : Array Slot), th_H D cT T (km q) H → va_S (th_A T [0]) s.heap H locs → lv_has ls 2 [(0, .ref a0), (1, .int y1)] → W p l e (rmk 2 44) s m [.ref a0, .int y1].toArray below meth c H locs 0 0 (MQ below (th_QM D cT T (fun v q2 => v = none ∧ qkm q2 ∧ fr [27, 28, 29, 30, 31] q q2 ∧ ((q2 29 = 0 ∧ q2 27 = q2 26 ∧ q2 28 = q2 26) ∨ (1 ≤ q2 29 ∧ q2 27 < q2 28 ∧ q2 28 ≤ q2 26)) ∧ (q2 30 = 0 → q2 29 = 3 → sg q2 (q2 28) < 97 ∨ 122 < sg q2 (q2 28)) ∧ (q2 30 = 0 → q2 29 = 3 → q2 31 = 7237492 → q2 27 + 3 ≤ q2 28) ∧ (q 27 ≤ q2 27) ∧ (q2 30 = 0 → q 30 = 0 ∧ y1.toInt ≠ 0 ∧ q 28 ≤ q2 27)) [0]) [.ref a0, .int y1].toArray s 0 0 (th_A T [0])) (F0 m 0 ls []) := by
    intro H locs ls hH hS hl
    refine lv_aload_n hx hb dX11_must_0 rfl (lv_at hl 0 rfl) ?_
    refine th_callVp (n := 0) (As := []) S hK hH hS (th_A.sub (by decide)) (m_X11_isGood l D cT T q hT hq a0 t0) gm_1487 gm_1484 gm_1486 gm_49 gm_124 (by decide +kernel) ⟨rfl, rfl, Nat.le_of_ble_eq_true rfl, Nat.le_of_ble_eq_true rfl⟩ t0 km_0 rfl rfl hl.1 rfl (Nat.le_of_ble_eq_true rfl) dX11_must_1 ⟨Nat.zero_le _, Nat.zero_le _⟩ (fun x1 H locs ix1 ox1 hH hS hF1 => ?_)
    obtain ⟨ox1_0, ox1_1⟩ := ox1
    have ox1_0 : x1.toInt ≠ 0 → q 30 = 0 := ox1_0
    have ox1_1 : x1.toInt = 0 → q 30 ≠ 0 := ox1_1
    have l1x1 := ix1.1; have l2x1 := ix1.2
    refine lv_if_ne (tgt := 8) hx hb dX11_must_4 (by decide) (fun c2 => ?_) (fun c2 => ?_)
    · skip
      have rlc2 : x1.toInt ≠ (0 : Int) := iv_ne c2
      have ir3 : IV x1 1 1 := iv_cutL ix1 (iv_c (by decide) : IV 0 0 0) c2 (by decide)
      have ir3a := ir3.1; have ir3b := ir3.2
      refine lv_iload_n hx hb dX11_must_8 rfl (lv_at hl 1 rfl) ?_
      refine lv_if_eq (tgt := 19) hx hb dX11_must_9 (by decide) (fun c4 => ?_) (fun c4 => ?_)
      · skip
        have rlc4 : y1.toInt = (0 : Int) := congrArg Int32.toInt c4
        have ir5 : IV y1 0 0 := iv_eL c4 (iv_c (by decide) : IV 0 0 0)
        have ir5a := ir5.1; have ir5b := ir5.2
        refine lv_aload_n hx hb dX11_must_19 rfl (lv_at hl 0 rfl) ?_
        refine th_callVM (n := 0) (As := []) S hK hH hS (th_A.sub (by decide)) (m_X11_misplaced l D cT T q hT hq a0 t0) gm_1503 gm_1500 gm_1502 gm_53 gm_124 (by decide +kernel) ⟨rfl, rfl, Nat.le_of_ble_eq_true rfl, Nat.le_of_ble_eq_true rfl⟩ t0 km_0 rfl rfl hl.1 rfl (Nat.le_of_ble_eq_true rfl) dX11_must_20 ⟨Nat.zero_le _, Nat.zero_le _⟩ (fun wq6 q6 H locs hEq6 hH hS hF1 => ?_)
        obtain ⟨rfl, hqq6, g0q6, pq6_0⟩ := hEq6
        show W p l e (rmk 2 44) s m [.ref a0, .int y1].toArray below meth c H locs 0 0 (MQ below (th_QM D cT T (fun v q2 => v = none ∧ qkm q2 ∧ fr [27, 28, 29, 30, 31] q q2 ∧ ((q2 29 = 0 ∧ q2 27 = q2 26 ∧ q2 28 = q2 26) ∨ (1 ≤ q2 29 ∧ q2 27 < q2 28 ∧ q2 28 ≤ q2 26)) ∧ (q2 30 = 0 → q2 29 = 3 → sg q2 (q2 28) < 97 ∨ 122 < sg q2 (q2 28)) ∧ (q2 30 = 0 → q2 29 = 3 → q2 31 = 7237492 → q2 27 + 3 ≤ q2 28) ∧ (q 27 ≤ q2 27) ∧ (q2 30 = 0 → q 30 = 0 ∧ y1.toInt ≠ 0 ∧ q 28 ≤ q2 27)) [0]) [.ref a0, .int y1].toArray s 0 0 (th_A T [0])) (F0 m 23 ls [])
        have pq6_0 : q6 30 ≠ 0 := pq6_0
        have wq6_26 : q6 26 = q 26 := g0q6 26 (by decide) (Or.inl (by decide))
        have wq6_27 : q6 27 = q 27 := g0q6 27 (by decide) (Or.inl (by decide))
        have wq6_28 : q6 28 = q 28 := g0q6 28 (by decide) (Or.inl (by decide))
        have wq6_29 : q6 29 = q 29 := g0q6 29 (by decide) (Or.inl (by decide))
        have wq6_31 : q6 31 = q 31 := g0q6 31 (by decide) (Or.inl (by decide))
        have h0q6 : fr [27, 28, 29, 30, 31] q q6 := fr_tr fr_rf g0q6 (by decide)
        exact J23 q6 H locs ls hqq6 h0q6 (show (q6 29 = 0 ∧ q6 27 = q6 26 ∧ q6 28 = q6 26) ∨ (1 ≤ q6 29 ∧ q6 27 < q6 28 ∧ q6 28 ≤ q6 26) by omega) (show q6 30 = 0 → q6 29 = 3 → sg q6 (q6 28) < 97 ∨ 122 < sg q6 (q6 28) by first | assumption | (intro z; exact absurd z (by omega)) | (intro _; assumption)) (show q6 30 = 0 → q6 29 = 3 → q6 31 = 7237492 → q6 27 + 3 ≤ q6 28 by first | assumption | omega) (show q 27 ≤ q6 27 by omega) (show q6 30 = 0 → q 30 = 0 ∧ y1.toInt ≠ 0 ∧ q 28 ≤ q6 27 by omega) hH hS (lv_sub hl [] rfl)
      · skip
        have rlc4 : y1.toInt ≠ (0 : Int) := iv_ne c4
        have ir7 : IV y1 1 1 := iv_cutL j1 (iv_c (by decide) : IV 0 0 0) c4 (by decide)
        have ir7a := ir7.1; have ir7b := ir7.2
        refine lv_aload_n hx hb dX11_must_12 rfl (lv_at hl 0 rfl) ?_
        refine th_callVM (n := 0) (As := []) S hK hH hS (th_A.sub (by decide)) (m_X11_goOn l D cT T q hT hq a0 t0 (show q 28 ≤ q 26 by omega)) gm_1445 gm_1442 gm_1444 gm_47 gm_124 (by decide +kernel) ⟨rfl, rfl, Nat.le_of_ble_eq_true rfl, Nat.le_of_ble_eq_true rfl⟩ t0 km_0 rfl rfl hl.1 rfl (Nat.le_of_ble_eq_true rfl) dX11_must_13 ⟨Nat.zero_le _, Nat.zero_le _⟩ (fun wq8 q8 H locs hEq8 hH hS hF1 => ?_)
        obtain ⟨rfl, hqq8, g0q8, pq8_0, pq8_1, pq8_2, pq8_3, pq8_4⟩ := hEq8
        show W p l e (rmk 2 44) s m [.ref a0, .int y1].toArray below meth c H locs 0 0 (MQ below (th_QM D cT T (fun v q2 => v = none ∧ qkm q2 ∧ fr [27, 28, 29, 30, 31] q q2 ∧ ((q2 29 = 0 ∧ q2 27 = q2 26 ∧ q2 28 = q2 26) ∨ (1 ≤ q2 29 ∧ q2 27 < q2 28 ∧ q2 28 ≤ q2 26)) ∧ (q2 30 = 0 → q2 29 = 3 → sg q2 (q2 28) < 97 ∨ 122 < sg q2 (q2 28)) ∧ (q2 30 = 0 → q2 29 = 3 → q2 31 = 7237492 → q2 27 + 3 ≤ q2 28) ∧ (q 27 ≤ q2 27) ∧ (q2 30 = 0 → q 30 = 0 ∧ y1.toInt ≠ 0 ∧ q 28 ≤ q2 27)) [0]) [.ref a0, .int y1].toArray s 0 0 (th_A T [0])) (F0 m 16 ls [])
        have pq8_0 : (q8 29 = 0 ∧ q8 27 = q8 26 ∧ q8 28 = q8 26) ∨ (1 ≤ q8 29 ∧ q8 27 < q8 28 ∧ q8 28 ≤ q8 26) := pq8_0
        have pq8_1 : q8 29 = 3 → sg q8 (q8 28) < 97 ∨ 122 < sg q8 (q8 28) := pq8_1
        have pq8_2 : q8 29 = 3 → q8 31 = 7237492 → q8 27 + 3 ≤ q8 28 := pq8_2
        have pq8_3 : q 28 ≤ q8 27 := pq8_3
        have pq8_4 : q8 29 = 3 → 97 ≤ sg q (q8 27) ∧ sg q (q8 27) ≤ 122 := pq8_4
        have wq8_26 : q8 26 = q 26 := g0q8 26 (by decide) (Or.inl (by decide))
        have wq8_30 : q8 30 = q 30 := g0q8 30 (by decide) (Or.inl (by decide))
        have h0q8 : fr [27, 28, 29, 30, 31] q q8 := fr_tr fr_rf g0q8 (by decide)
        refine lv_goto (tgt := 23) hx hb dX11_must_16 (by decide) ?_
        exact J23 q8 H locs ls hqq8 h0q8 (show (q8 29 = 0 ∧ q8 27 = q8 26 ∧ q8 28 = q8 26) ∨ (1 ≤ q8 29 ∧ q8 27 < q8 28 ∧ q8 28 ≤ q8 26) by omega) (show q8 30 = 0 → q8 29 = 3 → sg q8 (q8 28) < 97 ∨ 122 < sg q8 (q8 28) by first | assumption | (intro z; exact absurd z (by omega)) | (intro _; assumption)) (show q8 30 = 0 → q8 29 = 3 → q8 31 = 7237492 → q8 27 + 3 ≤ q8 28 by first | assumption | omega) (show q 27 ≤ q8 27 by omega) (show q8 30 = 0 → q 30 = 0 ∧ y1.toInt ≠ 0 ∧ q 28 ≤ q8 27 by omega) hH hS (lv_sub hl [] rfl)
    · skip
      have rlc2 : x1.toInt = (0 : Int) := congrArg Int32.toInt c2
      have ir9 : IV x1 0 0 := iv_eL c2 (iv_c (by decide) : IV 0 0 0)
      have ir9a := ir9.1; have ir9b := ir9.2
      exact th_vretM S hK hH hS hr hlocks ⟨rfl, hq, fr_rf, (show (q 29 = 0 ∧ q 27 = q 26 ∧ q 28 = q 26) ∨ (1 ≤ q 29 ∧ q 27 < q 28 ∧ q 28 ≤ q 26) by omega), (show q 30 = 0 → q 29 = 3 → sg q (q 28) < 97 ∨ 122 < sg q (q 28) by first | assumption | (intro z; exact absurd z (by omega)) | (intro _; assumption)), (show q 30 = 0 → q 29 = 3 → q 31 = 7237492 → q 27 + 3 ≤ q 28 by first | assumption | omega), (show q 27 ≤ q 27 by omega), (show q 30 = 0 → q 30 = 0 ∧ y1.toInt ≠ 0 ∧ q 28 ≤ q 27 by omega)⟩ dX11_must_7
  exact J0 s.heap [] ls hH va_S.rf hl

set_option maxHeartbeats 20000000 in
set_option maxRecDepth 100000 in
theorem m_X11_numeral (l : Launch) (D : va_G) (cT : Nat → ClassId) (T : Nat → Option Nat) (q : Nat → Int) (hT : tokm T) (hq : qkm q) (a0 : Nat) (t0 : T a0 = some 0) (y1 : Int32) (j1 : IV y1 (-2147483648) 2147483647) (y2 : Int32) (j2 : IV y2 (-2147483648) 2147483647) (hp0 : (q 29 = 0 ∧ q 27 = q 26 ∧ q 28 = q 26) ∨ (1 ≤ q 29 ∧ q 27 < q 28 ∧ q 28 ≤ q 26)) : th_MetM l D cT T q yX11_numeral cX11_numeral 4 (some .int) (rmk 2 44) [.ref a0, .int y1, .int y2] (fun v q2 => ∃ r : Int32, v = some (.int r) ∧ IV r (-2147483648) 2147483647 ∧ qkm q2 ∧ fr [27, 28, 29, 30, 31] q q2 ∧ ((q2 29 = 0 ∧ q2 27 = q2 26 ∧ q2 28 = q2 26) ∨ (1 ≤ q2 29 ∧ q2 27 < q2 28 ∧ q2 28 ≤ q2 26)) ∧ (q2 30 = 0 → q2 29 = 3 → sg q2 (q2 28) < 97 ∨ 122 < sg q2 (q2 28)) ∧ (q2 30 = 0 → q2 29 = 3 → q2 31 = 7237492 → q2 27 + 3 ≤ q2 28) ∧ (q 27 ≤ q2 27) ∧ (q2 30 = 0 → q 30 = 0 ∧ q 28 ≤ q2 27 ∧ q 29 ≠ 0)) [0] := by
  refine th_startM (by decide) (Nat.le_of_ble_eq_true rfl) ?_
  intro p e s m below meth c ls S hK hH hr hlocks hnm hl
  have hx := S.1
  have hb := S.2.1
  have hl : lv_has ls 4 [(0, .ref a0), (1, .int y1), (2, .int y2)] := hl
  have J81 : ∀ (q81 : Nat → Int) (H : Heap) (locs : List Loc) (ls : Array Slot) (w81_0 : Int32), qkm q81 → fr [27, 28, 29, 30, 31] q q81 → IV w81_0 (-2147483648) 2147483647 → ((q81 29 = 0 ∧ q81 27 = q81 26 ∧ q81 28 = q81 26) ∨ (1 ≤ q81 29 ∧ q81 27 < q81 28 ∧ q81 28 ≤ q81 26)) → (q81 30 = 0 → q81 29 = 3 → sg q81 (q81 28) < 97 ∨ 122 < sg q81 (q81 28)) → (q81 30 = 0 → q81 29 = 3 → q81 31 = 7237492 → q81 27 + 3 ≤ q81 28) → (q 27 ≤ q81 27) → (q81 30 = 0 → q 30 = 0 ∧ q 28 ≤ q81 27 ∧ q 29 ≠ 0) → th_H D cT T (km q81) H → va_S (th_A T [0]) s.heap H locs → lv_has ls 4 [] → W p l e (rmk 2 44) s m [.ref a0, .int y1, .int y2].toArray below meth c H locs 0 0 (MQ below (th_QM D cT T (fun v q2 => ∃ r : Int32, v = some (.int r) ∧ IV r (-2147483648) 2147483647 ∧ qkm q2 ∧ fr [27, 28, 29, 30, 31] q q2 ∧ ((q2 29 = 0 ∧ q2 27 = q2 26 ∧ q2 28 = q2 26) ∨ (1 ≤ q2 29 ∧ q2 27 < q2 28 ∧ q2 28 ≤ q2 26)) ∧ (q2 30 = 0 → q2 29 = 3 → sg q2 (q2 28) < 97 ∨ 122 < sg q2 (q2 28)) ∧ (q2 30 = 0 → q2 29 = 3 → q2 31 = 7237492 → q2 27 + 3 ≤ q2 28) ∧ (q 27 ≤ q2 27) ∧ (q2 30 = 0 → q 30 = 0 ∧ q 28 ≤ q2 27 ∧ q 29 ≠ 0)) [0]) [.ref a0, .int y1, .int y2].toArray s 0 0 (th_A T [0])) (F0 m 81 ls [.int w81_0]) := by
    intro q81 H locs ls w81_0 hq81 h081 iw81_0 v81_inv0 v81_inv1 v81_inv2 v81_inv3 v81_inv4 hH hS hl
    have w81_26 : q81 26 = q 26 := h081 26 (by decide) (Or.inl (by decide))
    exact th_iretM S hK hH hS hr hlocks ⟨_, rfl, iw81_0, hq81, h081, (show (q81 29 = 0 ∧ q81 27 = q81 26 ∧ q81 28 = q81 26) ∨ (1 ≤ q81 29 ∧ q81 27 < q81 28 ∧ q81 28 ≤ q81 26) by omega), (show q81 30 = 0 → q81 29 = 3 → sg q81 (q81 28) < 97 ∨ 122 < sg q81 (q81 28) by first | assumption | (intro z; exact absurd z (by omega)) | (intro _; assumption)), (show q81 30 = 0 → q81 29 = 3 → q81 31 = 7237492 → q81 27 + 3 ≤ q81 28 by first | assumption | omega), (show q 27 ≤ q81 27 by omega), (show q81 30 = 0 → q 30 = 0 ∧ q 28 ≤ q81 27 ∧ q 29 ≠ 0 by omega)⟩ dX11_numeral_81
  have J69 : ∀ (q69 : Nat → Int) (H : Heap) (locs : List Loc) (ls : Array Slot) (v69_3 : Int32), qkm q69 → fr [27, 28, 29, 30, 31] q q69 → IV v69_3 (-2147483648) 2147483647 → ((q69 29 = 0 ∧ q69 27 = q69 26 ∧ q69 28 = q69 26) ∨ (1 ≤ q69 29 ∧ q69 27 < q69 28 ∧ q69 28 ≤ q69 26)) → (q69 30 = 0 → q69 29 = 3 → sg q69 (q69 28) < 97 ∨ 122 < sg q69 (q69 28)) → (q69 30 = 0 → q69 29 = 3 → q69 31 = 7237492 → q69 27 + 3 ≤ q69 28) → (q 27 ≤ q69 27) → (q69 30 = 0 → q 30 = 0 ∧ q 28 ≤ q69 27 ∧ q 29 ≠ 0) → th_H D cT T (km q69) H → va_S (th_A T [0]) s.heap H locs → lv_has ls 4 [(0, .ref a0), (1, .int y1), (3, .int v69_3)] → W p l e (rmk 2 44) s m [.ref a0, .int y1, .int y2].toArray below meth c H locs 0 0 (MQ below (th_QM D cT T (fun v q2 => ∃ r : Int32, v = some (.int r) ∧ IV r (-2147483648) 2147483647 ∧ qkm q2 ∧ fr [27, 28, 29, 30, 31] q q2 ∧ ((q2 29 = 0 ∧ q2 27 = q2 26 ∧ q2 28 = q2 26) ∨ (1 ≤ q2 29 ∧ q2 27 < q2 28 ∧ q2 28 ≤ q2 26)) ∧ (q2 30 = 0 → q2 29 = 3 → sg q2 (q2 28) < 97 ∨ 122 < sg q2 (q2 28)) ∧ (q2 30 = 0 → q2 29 = 3 → q2 31 = 7237492 → q2 27 + 3 ≤ q2 28) ∧ (q 27 ≤ q2 27) ∧ (q2 30 = 0 → q 30 = 0 ∧ q 28 ≤ q2 27 ∧ q 29 ≠ 0)) [0]) [.ref a0, .int y1, .int y2].toArray s 0 0 (th_A T [0])) (F0 m 69 ls []) := by
    intro q69 H locs ls v69_3 hq69 h069 iv69_3 v69_inv0 v69_inv1 v69_inv2 v69_inv3 v69_inv4 hH hS hl
    have w69_26 : q69 26 = q 26 := h069 26 (by decide) (Or.inl (by decide))
    refine lv_aload_n hx hb dX11_numeral_69 rfl (lv_at hl 0 rfl) ?_
    refine th_callVp (n := 0) (As := []) S hK hH hS (th_A.sub (by decide)) (m_X11_isGood l D cT T q69 hT hq69 a0 t0) gm_1487 gm_1484 gm_1486 gm_49 gm_124 (by decide +kernel) ⟨rfl, rfl, Nat.le_of_ble_eq_true rfl, Nat.le_of_ble_eq_true rfl⟩ t0 km_0 rfl rfl hl.1 rfl (Nat.le_of_ble_eq_true rfl) dX11_numeral_70 ⟨Nat.zero_le _, Nat.zero_le _⟩ (fun x1 H locs ix1 ox1 hH hS hF1 => ?_)
    obtain ⟨ox1_0, ox1_1⟩ := ox1
    have ox1_0 : x1.toInt ≠ 0 → q69 30 = 0 := ox1_0
    have ox1_1 : x1.toInt = 0 → q69 30 ≠ 0 := ox1_1
    have l1x1 := ix1.1; have l2x1 := ix1.2
    refine lv_if_eq (tgt := 80) hx hb dX11_numeral_73 (by decide) (fun c2 => ?_) (fun c2 => ?_)
    · skip
      have rlc2 : x1.toInt = (0 : Int) := congrArg Int32.toInt c2
      have ir3 : IV x1 0 0 := iv_eL c2 (iv_c (by decide) : IV 0 0 0)
      have ir3a := ir3.1; have ir3b := ir3.2
      refine lv_iload_n hx hb dX11_numeral_80 rfl (lv_at hl 1 rfl) ?_
      exact J81 q69 H locs ls y1 hq69 h069 j1 (show (q69 29 = 0 ∧ q69 27 = q69 26 ∧ q69 28 = q69 26) ∨ (1 ≤ q69 29 ∧ q69 27 < q69 28 ∧ q69 28 ≤ q69 26) by omega) (show q69 30 = 0 → q69 29 = 3 → sg q69 (q69 28) < 97 ∨ 122 < sg q69 (q69 28) by first | assumption | (intro z; exact absurd z (by omega)) | (intro _; assumption)) (show q69 30 = 0 → q69 29 = 3 → q69 31 = 7237492 → q69 27 + 3 ≤ q69 28 by first | assumption | omega) (show q 27 ≤ q69 27 by omega) (show q69 30 = 0 → q 30 = 0 ∧ q 28 ≤ q69 27 ∧ q 29 ≠ 0 by omega) hH hS (lv_sub hl [] rfl)
    · skip
      have rlc2 : x1.toInt ≠ (0 : Int) := iv_ne c2
      have ir4 : IV x1 1 1 := iv_cutL ix1 (iv_c (by decide) : IV 0 0 0) c2 (by decide)
      have ir4a := ir4.1; have ir4b := ir4.2
      refine lv_iload_n hx hb dX11_numeral_76 rfl (lv_at hl 2 rfl) ?_
      refine lv_goto (tgt := 81) hx hb dX11_numeral_77 (by decide) ?_
      exact J81 q69 H locs ls v69_3 hq69 h069 iv69_3 (show (q69 29 = 0 ∧ q69 27 = q69 26 ∧ q69 28 = q69 26) ∨ (1 ≤ q69 29 ∧ q69 27 < q69 28 ∧ q69 28 ≤ q69 26) by omega) (show q69 30 = 0 → q69 29 = 3 → sg q69 (q69 28) < 97 ∨ 122 < sg q69 (q69 28) by first | assumption | (intro z; exact absurd z (by omega)) | (intro _; assumption)) (show q69 30 = 0 → q69 29 = 3 → q69 31 = 7237492 → q69 27 + 3 ≤ q69 28 by first | assumption | omega) (show q 27 ≤ q69 27 by omega) (show q69 30 = 0 → q 30 = 0 ∧ q 28 ≤ q69 27 ∧ q 29 ≠ 0 by omega) hH hS (lv_sub hl [] rfl)
  have J53 : ∀ (q53 : Nat → Int) (H : Heap) (locs : List Loc) (ls : Array Slot), qkm q53 → fr [27, 28, 29, 30, 31] q q53 → (q53 27 = q 27 ∧ q53 28 = q 28 ∧ q53 29 = q 29) → (q53 30 = 0 → q 30 = 0 ∧ q 29 = 4) → th_H D cT T (km q53) H → va_S (th_A T [0]) s.heap H locs → lv_has ls 4 [(0, .ref a0), (1, .int y1)] → W p l e (rmk 2 44) s m [.ref a0, .int y1, .int y2].toArray below meth c H locs 0 0 (MQ below (th_QM D cT T (fun v q2 => ∃ r : Int32, v = some (.int r) ∧ IV r (-2147483648) 2147483647 ∧ qkm q2 ∧ fr [27, 28, 29, 30, 31] q q2 ∧ ((q2 29 = 0 ∧ q2 27 = q2 26 ∧ q2 28 = q2 26) ∨ (1 ≤ q2 29 ∧ q2 27 < q2 28 ∧ q2 28 ≤ q2 26)) ∧ (q2 30 = 0 → q2 29 = 3 → sg q2 (q2 28) < 97 ∨ 122 < sg q2 (q2 28)) ∧ (q2 30 = 0 → q2 29 = 3 → q2 31 = 7237492 → q2 27 + 3 ≤ q2 28) ∧ (q 27 ≤ q2 27) ∧ (q2 30 = 0 → q 30 = 0 ∧ q 28 ≤ q2 27 ∧ q 29 ≠ 0)) [0]) [.ref a0, .int y1, .int y2].toArray s 0 0 (th_A T [0])) (F0 m 53 ls []) := by
    intro q53 H locs ls hq53 h053 v53_inv0 v53_inv1 hH hS hl
    have w53_26 : q53 26 = q 26 := h053 26 (by decide) (Or.inl (by decide))
    refine lv_aload_n hx hb dX11_numeral_53 rfl (lv_at hl 0 rfl) ?_
    refine th_get S hK hH inG11 t0 km_0 rfl 9 (by decide) gm_1239 rfl rfl dX11_numeral_54 (fun v5 hv5 fv5 => ?_)
    obtain ⟨x6, rfl, ix6⟩ := th_V.int hv5
    refine lv_istore_n (lv' := [(3, .int x6), (0, .ref a0), (1, .int y1)]) hx hb dX11_numeral_57 rfl hl (by decide) rfl (fun ls hl => ?_)
    refine lv_aload_n hx hb dX11_numeral_58 rfl (lv_at hl 1 rfl) ?_
    refine th_callVp (n := 0) (As := []) S hK hH hS (th_A.sub (by decide)) (m_X11_isGood l D cT T q53 hT hq53 a0 t0) gm_1487 gm_1484 gm_1486 gm_49 gm_124 (by decide +kernel) ⟨rfl, rfl, Nat.le_of_ble_eq_true rfl, Nat.le_of_ble_eq_true rfl⟩ t0 km_0 rfl rfl hl.1 rfl (Nat.le_of_ble_eq_true rfl) dX11_numeral_59 ⟨Nat.zero_le _, Nat.zero_le _⟩ (fun x7 H locs ix7 ox7 hH hS hF1 => ?_)
    obtain ⟨ox7_0, ox7_1⟩ := ox7
    have ox7_0 : x7.toInt ≠ 0 → q53 30 = 0 := ox7_0
    have ox7_1 : x7.toInt = 0 → q53 30 ≠ 0 := ox7_1
    have l1x7 := ix7.1; have l2x7 := ix7.2
    have f8 := fv5.kept (hF1 _ fv5.lt (th_off t0 (by decide)))
    refine lv_if_eq (tgt := 69) hx hb dX11_numeral_62 (by decide) (fun c9 => ?_) (fun c9 => ?_)
    · skip
      have rlc9 : x7.toInt = (0 : Int) := congrArg Int32.toInt c9
      have ir10 : IV x7 0 0 := iv_eL c9 (iv_c (by decide) : IV 0 0 0)
      have ir10a := ir10.1; have ir10b := ir10.2
      exact J69 q53 H locs ls x6 hq53 h053 ix6 (show (q53 29 = 0 ∧ q53 27 = q53 26 ∧ q53 28 = q53 26) ∨ (1 ≤ q53 29 ∧ q53 27 < q53 28 ∧ q53 28 ≤ q53 26) by omega) (show q53 30 = 0 → q53 29 = 3 → sg q53 (q53 28) < 97 ∨ 122 < sg q53 (q53 28) by first | assumption | (intro z; exact absurd z (by omega)) | (intro _; assumption)) (show q53 30 = 0 → q53 29 = 3 → q53 31 = 7237492 → q53 27 + 3 ≤ q53 28 by first | assumption | omega) (show q 27 ≤ q53 27 by omega) (show q53 30 = 0 → q 30 = 0 ∧ q 28 ≤ q53 27 ∧ q 29 ≠ 0 by omega) hH hS (lv_sub hl [1, 2, 0] rfl)
    · skip
      have rlc9 : x7.toInt ≠ (0 : Int) := iv_ne c9
      have ir11 : IV x7 1 1 := iv_cutL ix7 (iv_c (by decide) : IV 0 0 0) c9 (by decide)
      have ir11a := ir11.1; have ir11b := ir11.2
      refine lv_aload_n hx hb dX11_numeral_65 rfl (lv_at hl 1 rfl) ?_
      refine th_callVM (n := 0) (As := []) S hK hH hS (th_A.sub (by decide)) (m_X11_goOn l D cT T q53 hT hq53 a0 t0 (show q53 28 ≤ q53 26 by omega)) gm_1445 gm_1442 gm_1444 gm_47 gm_124 (by decide +kernel) ⟨rfl, rfl, Nat.le_of_ble_eq_true rfl, Nat.le_of_ble_eq_true rfl⟩ t0 km_0 rfl rfl hl.1 rfl (Nat.le_of_ble_eq_true rfl) dX11_numeral_66 ⟨Nat.zero_le _, Nat.zero_le _⟩ (fun wq12 q12 H locs hEq12 hH hS hF1 => ?_)
      obtain ⟨rfl, hqq12, g0q12, pq12_0, pq12_1, pq12_2, pq12_3, pq12_4⟩ := hEq12
      show W p l e (rmk 2 44) s m [.ref a0, .int y1, .int y2].toArray below meth c H locs 0 0 (MQ below (th_QM D cT T (fun v q2 => ∃ r : Int32, v = some (.int r) ∧ IV r (-2147483648) 2147483647 ∧ qkm q2 ∧ fr [27, 28, 29, 30, 31] q q2 ∧ ((q2 29 = 0 ∧ q2 27 = q2 26 ∧ q2 28 = q2 26) ∨ (1 ≤ q2 29 ∧ q2 27 < q2 28 ∧ q2 28 ≤ q2 26)) ∧ (q2 30 = 0 → q2 29 = 3 → sg q2 (q2 28) < 97 ∨ 122 < sg q2 (q2 28)) ∧ (q2 30 = 0 → q2 29 = 3 → q2 31 = 7237492 → q2 27 + 3 ≤ q2 28) ∧ (q 27 ≤ q2 27) ∧ (q2 30 = 0 → q 30 = 0 ∧ q 28 ≤ q2 27 ∧ q 29 ≠ 0)) [0]) [.ref a0, .int y1, .int y2].toArray s 0 0 (th_A T [0])) (F0 m 69 ls [])
      have pq12_0 : (q12 29 = 0 ∧ q12 27 = q12 26 ∧ q12 28 = q12 26) ∨ (1 ≤ q12 29 ∧ q12 27 < q12 28 ∧ q12 28 ≤ q12 26) := pq12_0
      have pq12_1 : q12 29 = 3 → sg q12 (q12 28) < 97 ∨ 122 < sg q12 (q12 28) := pq12_1
      have pq12_2 : q12 29 = 3 → q12 31 = 7237492 → q12 27 + 3 ≤ q12 28 := pq12_2
      have pq12_3 : q53 28 ≤ q12 27 := pq12_3
      have pq12_4 : q12 29 = 3 → 97 ≤ sg q53 (q12 27) ∧ sg q53 (q12 27) ≤ 122 := pq12_4
      have wq12_26 : q12 26 = q53 26 := g0q12 26 (by decide) (Or.inl (by decide))
      have wq12_30 : q12 30 = q53 30 := g0q12 30 (by decide) (Or.inl (by decide))
      have h0q12 : fr [27, 28, 29, 30, 31] q q12 := fr_tr h053 g0q12 (by decide)
      exact J69 q12 H locs ls x6 hqq12 h0q12 ix6 (show (q12 29 = 0 ∧ q12 27 = q12 26 ∧ q12 28 = q12 26) ∨ (1 ≤ q12 29 ∧ q12 27 < q12 28 ∧ q12 28 ≤ q12 26) by omega) (show q12 30 = 0 → q12 29 = 3 → sg q12 (q12 28) < 97 ∨ 122 < sg q12 (q12 28) by first | assumption | (intro z; exact absurd z (by omega)) | (intro _; assumption)) (show q12 30 = 0 → q12 29 = 3 → q12 31 = 7237492 → q12 27 + 3 ≤ q12 28 by first | assumption | omega) (show q 27 ≤ q12 27 by omega) (show q12 30 = 0 → q 30 = 0 ∧ q 28 ≤ q12 27 ∧ q 29 ≠ 0 by omega) hH hS (lv_sub hl [1, 2, 0] rfl)
  have J44 : ∀ (q44 : Nat → Int) (H : Heap) (locs : List Loc) (ls : Array Slot) (u44_a0_9 : Int32), qkm q44 → fr [27, 28, 29, 30, 31] q q44 → IV u44_a0_9 (-2147483648) 2147483647 → th_fa D H a0 11 9 (.int u44_a0_9) → (q44 27 = q 27 ∧ q44 28 = q 28 ∧ q44 29 = q 29) → (q44 30 = 0 → q 30 = 0 ∧ q 29 = 4) → th_H D cT T (km q44) H → va_S (th_A T [0]) s.heap H locs → lv_has ls 4 [(0, .ref a0), (1, .int y1)] → W p l e (rmk 2 44) s m [.ref a0, .int y1, .int y2].toArray below meth c H locs 0 0 (MQ below (th_QM D cT T (fun v q2 => ∃ r : Int32, v = some (.int r) ∧ IV r (-2147483648) 2147483647 ∧ qkm q2 ∧ fr [27, 28, 29, 30, 31] q q2 ∧ ((q2 29 = 0 ∧ q2 27 = q2 26 ∧ q2 28 = q2 26) ∨ (1 ≤ q2 29 ∧ q2 27 < q2 28 ∧ q2 28 ≤ q2 26)) ∧ (q2 30 = 0 → q2 29 = 3 → sg q2 (q2 28) < 97 ∨ 122 < sg q2 (q2 28)) ∧ (q2 30 = 0 → q2 29 = 3 → q2 31 = 7237492 → q2 27 + 3 ≤ q2 28) ∧ (q 27 ≤ q2 27) ∧ (q2 30 = 0 → q 30 = 0 ∧ q 28 ≤ q2 27 ∧ q 29 ≠ 0)) [0]) [.ref a0, .int y1, .int y2].toArray s 0 0 (th_A T [0])) (F0 m 44 ls []) := by
    intro q44 H locs ls u44_a0_9 hq44 h044 iu44_a0_9 gu44_a0_9 v44_inv0 v44_inv1 hH hS hl
    have w44_26 : q44 26 = q 26 := h044 26 (by decide) (Or.inl (by decide))
    refine lv_aload_n hx hb dX11_numeral_44 rfl (lv_at hl 0 rfl) ?_
    refine lv_iconst (v := 4) hx hb dX11_numeral_45 (by decide) ?_
    refine lv_aload_n hx hb dX11_numeral_46 rfl (lv_at hl 0 rfl) ?_
    refine th_get S hK hH inG11 t0 km_0 rfl 6 (by decide) gm_1236 rfl rfl dX11_numeral_47 (fun v13 hv13 fv13 => ?_)
    obtain ⟨x14, rfl, ix14⟩ := th_V.int hv13
    have kx14a : q44 27 ≤ x14.toInt := ix14.1
    have kx14b : x14.toInt ≤ q44 27 := ix14.2
    have bx14 := qkm_27 hq44
    have ix14 : IV x14 0 1600 := iv_w ix14 (qkm_27 hq44)
    refine th_callVM (n := 2) (As := [.int 4, .int x14]) S hK hH hS (th_A.sub (by decide)) (m_X11_fails l D cT T q44 hT hq44 a0 t0 (4) (iv_w (iv_c (by decide) : IV 4 4 4) (by decide)) (x14) (iv_top _)) gm_1507 gm_1504 gm_1506 gm_54 gm_124 (by decide +kernel) ⟨rfl, rfl, Nat.le_of_ble_eq_true rfl, Nat.le_of_ble_eq_true rfl⟩ t0 km_0 rfl rfl hl.1 rfl (Nat.le_of_ble_eq_true rfl) dX11_numeral_50 ⟨Nat.zero_le _, Nat.zero_le _⟩ (fun wq15 q15 H locs hEq15 hH hS hF1 => ?_)
    obtain ⟨rfl, hqq15, g0q15, pq15_0⟩ := hEq15
    show W p l e (rmk 2 44) s m [.ref a0, .int y1, .int y2].toArray below meth c H locs 0 0 (MQ below (th_QM D cT T (fun v q2 => ∃ r : Int32, v = some (.int r) ∧ IV r (-2147483648) 2147483647 ∧ qkm q2 ∧ fr [27, 28, 29, 30, 31] q q2 ∧ ((q2 29 = 0 ∧ q2 27 = q2 26 ∧ q2 28 = q2 26) ∨ (1 ≤ q2 29 ∧ q2 27 < q2 28 ∧ q2 28 ≤ q2 26)) ∧ (q2 30 = 0 → q2 29 = 3 → sg q2 (q2 28) < 97 ∨ 122 < sg q2 (q2 28)) ∧ (q2 30 = 0 → q2 29 = 3 → q2 31 = 7237492 → q2 27 + 3 ≤ q2 28) ∧ (q 27 ≤ q2 27) ∧ (q2 30 = 0 → q 30 = 0 ∧ q 28 ≤ q2 27 ∧ q 29 ≠ 0)) [0]) [.ref a0, .int y1, .int y2].toArray s 0 0 (th_A T [0])) (F0 m 53 ls [])
    have pq15_0 : q15 30 ≠ 0 := pq15_0
    have wq15_26 : q15 26 = q44 26 := g0q15 26 (by decide) (Or.inl (by decide))
    have wq15_27 : q15 27 = q44 27 := g0q15 27 (by decide) (Or.inl (by decide))
    have wq15_28 : q15 28 = q44 28 := g0q15 28 (by decide) (Or.inl (by decide))
    have wq15_29 : q15 29 = q44 29 := g0q15 29 (by decide) (Or.inl (by decide))
    have wq15_31 : q15 31 = q44 31 := g0q15 31 (by decide) (Or.inl (by decide))
    have h0q15 : fr [27, 28, 29, 30, 31] q q15 := fr_tr h044 g0q15 (by decide)
    exact J53 q15 H locs ls hqq15 h0q15 (show q15 27 = q 27 ∧ q15 28 = q 28 ∧ q15 29 = q 29 by omega) (show q15 30 = 0 → q 30 = 0 ∧ q 29 = 4 by omega) hH hS (lv_sub hl [0, 1] rfl)
  have J21 : ∀ (q21 : Nat → Int) (H : Heap) (locs : List Loc) (ls : Array Slot), qkm q21 → fr [27, 28, 29, 30, 31] q q21 → (q21 27 = q 27 ∧ q21 28 = q 28 ∧ q21 29 = q 29) → (q21 30 = 0 → q 30 = 0 ∧ q 29 = 4) → th_H D cT T (km q21) H → va_S (th_A T [0]) s.heap H locs → lv_has ls 4 [(0, .ref a0), (1, .int y1), (2, .int y2)] → W p l e (rmk 2 44) s m [.ref a0, .int y1, .int y2].toArray below meth c H locs 0 0 (MQ below (th_QM D cT T (fun v q2 => ∃ r : Int32, v = some (.int r) ∧ IV r (-2147483648) 2147483647 ∧ qkm q2 ∧ fr [27, 28, 29, 30, 31] q q2 ∧ ((q2 29 = 0 ∧ q2 27 = q2 26 ∧ q2 28 = q2 26) ∨ (1 ≤ q2 29 ∧ q2 27 < q2 28 ∧ q2 28 ≤ q2 26)) ∧ (q2 30 = 0 → q2 29 = 3 → sg q2 (q2 28) < 97 ∨ 122 < sg q2 (q2 28)) ∧ (q2 30 = 0 → q2 29 = 3 → q2 31 = 7237492 → q2 27 + 3 ≤ q2 28) ∧ (q 27 ≤ q2 27) ∧ (q2 30 = 0 → q 30 = 0 ∧ q 28 ≤ q2 27 ∧ q 29 ≠ 0)) [0]) [.ref a0, .int y1, .int y2].toArray s 0 0 (th_A T [0])) (F0 m 21 ls []) := by
    intro q21 H locs ls hq21 h021 v21_inv0 v21_inv1 hH hS hl
    have w21_26 : q21 26 = q 26 := h021 26 (by decide) (Or.inl (by decide))
    refine lv_aload_n hx hb dX11_numeral_21 rfl (lv_at hl 0 rfl) ?_
    refine th_callVp (n := 0) (As := []) S hK hH hS (th_A.sub (by decide)) (m_X11_isGood l D cT T q21 hT hq21 a0 t0) gm_1487 gm_1484 gm_1486 gm_49 gm_124 (by decide +kernel) ⟨rfl, rfl, Nat.le_of_ble_eq_true rfl, Nat.le_of_ble_eq_true rfl⟩ t0 km_0 rfl rfl hl.1 rfl (Nat.le_of_ble_eq_true rfl) dX11_numeral_22 ⟨Nat.zero_le _, Nat.zero_le _⟩ (fun x16 H locs ix16 ox16 hH hS hF1 => ?_)
    obtain ⟨ox16_0, ox16_1⟩ := ox16
    have ox16_0 : x16.toInt ≠ 0 → q21 30 = 0 := ox16_0
    have ox16_1 : x16.toInt = 0 → q21 30 ≠ 0 := ox16_1
    have l1x16 := ix16.1; have l2x16 := ix16.2
    refine lv_if_eq (tgt := 53) hx hb dX11_numeral_25 (by decide) (fun c17 => ?_) (fun c17 => ?_)
    · skip
      have rlc17 : x16.toInt = (0 : Int) := congrArg Int32.toInt c17
      have ir18 : IV x16 0 0 := iv_eL c17 (iv_c (by decide) : IV 0 0 0)
      have ir18a := ir18.1; have ir18b := ir18.2
      exact J53 q21 H locs ls hq21 h021 (show q21 27 = q 27 ∧ q21 28 = q 28 ∧ q21 29 = q 29 by omega) (show q21 30 = 0 → q 30 = 0 ∧ q 29 = 4 by omega) hH hS (lv_sub hl [0, 1] rfl)
    · skip
      have rlc17 : x16.toInt ≠ (0 : Int) := iv_ne c17
      have ir19 : IV x16 1 1 := iv_cutL ix16 (iv_c (by decide) : IV 0 0 0) c17 (by decide)
      have ir19a := ir19.1; have ir19b := ir19.2
      refine lv_aload_n hx hb dX11_numeral_28 rfl (lv_at hl 0 rfl) ?_
      refine th_get S hK hH inG11 t0 km_0 rfl 9 (by decide) gm_1239 rfl rfl dX11_numeral_29 (fun v20 hv20 fv20 => ?_)
      obtain ⟨x21, rfl, ix21⟩ := th_V.int hv20
      refine lv_iload_n hx hb dX11_numeral_32 rfl (lv_at hl 1 rfl) ?_
      refine lv_icmp_lt (tgt := 44) hx hb dX11_numeral_33 (by decide) (fun c22 => ?_) (fun c22 => ?_)
      · skip
        have rlc22 : x21.toInt < y1.toInt := iv_lt c22
        have ir23 : IV x21 (-2147483648) 2147483646 := iv_uL ix21 j1 (iv_lt c22) (by decide)
        have ir23a := ir23.1; have ir23b := ir23.2
        have ir24 : IV y1 (-2147483647) 2147483647 := iv_uR ix21 j1 (iv_lt c22) (by decide)
        have ir24a := ir24.1; have ir24b := ir24.2
        exact J44 q21 H locs ls x21 hq21 h021 (iv_top _) fv20 (show q21 27 = q 27 ∧ q21 28 = q 28 ∧ q21 29 = q 29 by omega) (show q21 30 = 0 → q 30 = 0 ∧ q 29 = 4 by omega) hH hS (lv_sub hl [0, 1] rfl)
      · skip
        have rlc22 : y1.toInt ≤ x21.toInt := iv_nlt c22
        refine lv_aload_n hx hb dX11_numeral_36 rfl (lv_at hl 0 rfl) ?_
        refine th_getK S hK fv20 inG11 rfl (by decide) gm_1239 rfl dX11_numeral_37 ?_
        refine lv_iload_n hx hb dX11_numeral_40 rfl (lv_at hl 2 rfl) ?_
        refine lv_icmp_le (tgt := 53) hx hb dX11_numeral_41 (by decide) (fun c26 => ?_) (fun c26 => ?_)
        · skip
          have rlc26 : x21.toInt ≤ y2.toInt := iv_le c26
          exact J53 q21 H locs ls hq21 h021 (show q21 27 = q 27 ∧ q21 28 = q 28 ∧ q21 29 = q 29 by omega) (show q21 30 = 0 → q 30 = 0 ∧ q 29 = 4 by omega) hH hS (lv_sub hl [0, 1] rfl)
        · skip
          have rlc26 : y2.toInt < x21.toInt := iv_nle c26
          have ir27 : IV y2 (-2147483648) 2147483646 := iv_uL j2 ix21 (iv_nle c26) (by decide)
          have ir27a := ir27.1; have ir27b := ir27.2
          have ir28 : IV x21 (-2147483647) 2147483647 := iv_uR j2 ix21 (iv_nle c26) (by decide)
          have ir28a := ir28.1; have ir28b := ir28.2
          exact J44 q21 H locs ls x21 hq21 h021 (iv_top _) fv20 (show q21 27 = q 27 ∧ q21 28 = q 28 ∧ q21 29 = q 29 by omega) (show q21 30 = 0 → q 30 = 0 ∧ q 29 = 4 by omega) hH hS (lv_sub hl [0, 1] rfl)
  have J0 : ∀ (H : Heap) (locs : List Loc) (ls : Array Slot), th_H D cT T (km q) H → va_S (th_A T [0]) s.heap H locs → lv_has ls 4 [(0, .ref a0), (1, .int y1), (2, .int y2)] → W p l e (rmk 2 44) s m [.ref a0, .int y1, .int y2].toArray below meth c H locs 0 0 (MQ below (th_QM D cT T (fun v q2 => ∃ r : Int32, v = some (.int r) ∧ IV r (-2147483648) 2147483647 ∧ qkm q2 ∧ fr [27, 28, 29, 30, 31] q q2 ∧ ((q2 29 = 0 ∧ q2 27 = q2 26 ∧ q2 28 = q2 26) ∨ (1 ≤ q2 29 ∧ q2 27 < q2 28 ∧ q2 28 ≤ q2 26)) ∧ (q2 30 = 0 → q2 29 = 3 → sg q2 (q2 28) < 97 ∨ 122 < sg q2 (q2 28)) ∧ (q2 30 = 0 → q2 29 = 3 → q2 31 = 7237492 → q2 27 + 3 ≤ q2 28) ∧ (q 27 ≤ q2 27) ∧ (q2 30 = 0 → q 30 = 0 ∧ q 28 ≤ q2 27 ∧ q 29 ≠ 0)) [0]) [.ref a0, .int y1, .int y2].toArray s 0 0 (th_A T [0])) (F0 m 0 ls []) := by
    intro H locs ls hH hS hl
    refine lv_aload_n hx hb dX11_numeral_0 rfl (lv_at hl 0 rfl) ?_
    refine th_callVp (n := 0) (As := []) S hK hH hS (th_A.sub (by decide)) (m_X11_isGood l D cT T q hT hq a0 t0) gm_1487 gm_1484 gm_1486 gm_49 gm_124 (by decide +kernel) ⟨rfl, rfl, Nat.le_of_ble_eq_true rfl, Nat.le_of_ble_eq_true rfl⟩ t0 km_0 rfl rfl hl.1 rfl (Nat.le_of_ble_eq_true rfl) dX11_numeral_1 ⟨Nat.zero_le _, Nat.zero_le _⟩ (fun x29 H locs ix29 ox29 hH hS hF1 => ?_)
    obtain ⟨ox29_0, ox29_1⟩ := ox29
    have ox29_0 : x29.toInt ≠ 0 → q 30 = 0 := ox29_0
    have ox29_1 : x29.toInt = 0 → q 30 ≠ 0 := ox29_1
    have l1x29 := ix29.1; have l2x29 := ix29.2
    refine lv_if_ne (tgt := 9) hx hb dX11_numeral_4 (by decide) (fun c30 => ?_) (fun c30 => ?_)
    · skip
      have rlc30 : x29.toInt ≠ (0 : Int) := iv_ne c30
      have ir31 : IV x29 1 1 := iv_cutL ix29 (iv_c (by decide) : IV 0 0 0) c30 (by decide)
      have ir31a := ir31.1; have ir31b := ir31.2
      refine lv_aload_n hx hb dX11_numeral_9 rfl (lv_at hl 0 rfl) ?_
      refine th_get S hK hH inG11 t0 km_0 rfl 8 (by decide) gm_1238 rfl rfl dX11_numeral_10 (fun v32 hv32 fv32 => ?_)
      obtain ⟨x33, rfl, ix33⟩ := th_V.int hv32
      have kx33a : q 29 ≤ x33.toInt := ix33.1
      have kx33b : x33.toInt ≤ q 29 := ix33.2
      have bx33 := qkm_29 hq
      have ix33 : IV x33 0 5 := iv_w ix33 (qkm_29 hq)
      refine lv_iconst (v := 4) hx hb dX11_numeral_13 (by decide) ?_
      refine lv_icmp_eq (tgt := 21) hx hb dX11_numeral_14 (by decide) (fun c34 => ?_) (fun c34 => ?_)
      · skip
        have rlc34 : x33.toInt = (4 : Int) := congrArg Int32.toInt c34
        have ir35 : IV x33 4 4 := iv_eL c34 (iv_c (by decide) : IV 4 4 4)
        have ir35a := ir35.1; have ir35b := ir35.2
        exact J21 q H locs ls hq fr_rf (show q 27 = q 27 ∧ q 28 = q 28 ∧ q 29 = q 29 by omega) (show q 30 = 0 → q 30 = 0 ∧ q 29 = 4 by omega) hH hS (lv_sub hl [0, 1, 2] rfl)
      · skip
        have rlc34 : x33.toInt ≠ (4 : Int) := iv_ne c34
        refine lv_aload_n hx hb dX11_numeral_17 rfl (lv_at hl 0 rfl) ?_
        refine th_callVM (n := 0) (As := []) S hK hH hS (th_A.sub (by decide)) (m_X11_misplaced l D cT T q hT hq a0 t0) gm_1503 gm_1500 gm_1502 gm_53 gm_124 (by decide +kernel) ⟨rfl, rfl, Nat.le_of_ble_eq_true rfl, Nat.le_of_ble_eq_true rfl⟩ t0 km_0 rfl rfl hl.1 rfl (Nat.le_of_ble_eq_true rfl) dX11_numeral_18 ⟨Nat.zero_le _, Nat.zero_le _⟩ (fun wq36 q36 H locs hEq36 hH hS hF1 => ?_)
        obtain ⟨rfl, hqq36, g0q36, pq36_0⟩ := hEq36
        show W p l e (rmk 2 44) s m [.ref a0, .int y1, .int y2].toArray below meth c H locs 0 0 (MQ below (th_QM D cT T (fun v q2 => ∃ r : Int32, v = some (.int r) ∧ IV r (-2147483648) 2147483647 ∧ qkm q2 ∧ fr [27, 28, 29, 30, 31] q q2 ∧ ((q2 29 = 0 ∧ q2 27 = q2 26 ∧ q2 28 = q2 26) ∨ (1 ≤ q2 29 ∧ q2 27 < q2 28 ∧ q2 28 ≤ q2 26)) ∧ (q2 30 = 0 → q2 29 = 3 → sg q2 (q2 28) < 97 ∨ 122 < sg q2 (q2 28)) ∧ (q2 30 = 0 → q2 29 = 3 → q2 31 = 7237492 → q2 27 + 3 ≤ q2 28) ∧ (q 27 ≤ q2 27) ∧ (q2 30 = 0 → q 30 = 0 ∧ q 28 ≤ q2 27 ∧ q 29 ≠ 0)) [0]) [.ref a0, .int y1, .int y2].toArray s 0 0 (th_A T [0])) (F0 m 21 ls [])
        have pq36_0 : q36 30 ≠ 0 := pq36_0
        have wq36_26 : q36 26 = q 26 := g0q36 26 (by decide) (Or.inl (by decide))
        have wq36_27 : q36 27 = q 27 := g0q36 27 (by decide) (Or.inl (by decide))
        have wq36_28 : q36 28 = q 28 := g0q36 28 (by decide) (Or.inl (by decide))
        have wq36_29 : q36 29 = q 29 := g0q36 29 (by decide) (Or.inl (by decide))
        have wq36_31 : q36 31 = q 31 := g0q36 31 (by decide) (Or.inl (by decide))
        have h0q36 : fr [27, 28, 29, 30, 31] q q36 := fr_tr fr_rf g0q36 (by decide)
        exact J21 q36 H locs ls hqq36 h0q36 (show q36 27 = q 27 ∧ q36 28 = q 28 ∧ q36 29 = q 29 by omega) (show q36 30 = 0 → q 30 = 0 ∧ q 29 = 4 by omega) hH hS (lv_sub hl [0, 1, 2] rfl)
    · skip
      have rlc30 : x29.toInt = (0 : Int) := congrArg Int32.toInt c30
      have ir37 : IV x29 0 0 := iv_eL c30 (iv_c (by decide) : IV 0 0 0)
      have ir37a := ir37.1; have ir37b := ir37.2
      refine lv_iload_n hx hb dX11_numeral_7 rfl (lv_at hl 1 rfl) ?_
      exact th_iretM S hK hH hS hr hlocks ⟨_, rfl, j1, hq, fr_rf, (show (q 29 = 0 ∧ q 27 = q 26 ∧ q 28 = q 26) ∨ (1 ≤ q 29 ∧ q 27 < q 28 ∧ q 28 ≤ q 26) by omega), (show q 30 = 0 → q 29 = 3 → sg q (q 28) < 97 ∨ 122 < sg q (q 28) by first | assumption | (intro z; exact absurd z (by omega)) | (intro _; assumption)), (show q 30 = 0 → q 29 = 3 → q 31 = 7237492 → q 27 + 3 ≤ q 28 by first | assumption | omega), (show q 27 ≤ q 27 by omega), (show q 30 = 0 → q 30 = 0 ∧ q 28 ≤ q 27 ∧ q 29 ≠ 0 by omega)⟩ dX11_numeral_8
  exact J0 s.heap [] ls hH va_S.rf hl

set_option maxHeartbeats 20000000 in
set_option maxRecDepth 100000 in
theorem m_X11_after (l : Launch) (D : va_G) (cT : Nat → ClassId) (T : Nat → Option Nat) (q : Nat → Int) (hT : tokm T) (hq : qkm q) (a0 : Nat) (t0 : T a0 = some 0) (y1 : Int64) (y2 : Int32) (j2 : IV y2 (-2147483648) 2147483647) (y3 : Int32) (j3 : IV y3 (-2147483648) 2147483647) (hp0 : (q 29 = 0 ∧ q 27 = q 26 ∧ q 28 = q 26) ∨ (1 ≤ q 29 ∧ q 27 < q 28 ∧ q 28 ≤ q 26)) : th_MetM l D cT T q yX11_after cX11_after 5 (some .int) (rmk 3 67) [.ref a0, .long y1, .int y2, .int y3] (fun v q2 => ∃ r : Int32, v = some (.int r) ∧ IV r (-2147483648) 2147483647 ∧ qkm q2 ∧ fr [27, 28, 29, 30, 31] q q2 ∧ ((q2 29 = 0 ∧ q2 27 = q2 26 ∧ q2 28 = q2 26) ∨ (1 ≤ q2 29 ∧ q2 27 < q2 28 ∧ q2 28 ≤ q2 26)) ∧ (q2 30 = 0 → q2 29 = 3 → sg q2 (q2 28) < 97 ∨ 122 < sg q2 (q2 28)) ∧ (q2 30 = 0 → q2 29 = 3 → q2 31 = 7237492 → q2 27 + 3 ≤ q2 28) ∧ (q 27 ≤ q2 27) ∧ (q2 30 = 0 → q 30 = 0 ∧ q 28 ≤ q2 27 ∧ q 29 ≠ 0)) [0] := by
  refine th_startM (by decide) (Nat.le_of_ble_eq_true rfl) ?_
  intro p e s m below meth c ls S hK hH hr hlocks hnm hl
  have hx := S.1
  have hb := S.2.1
  have hl : lv_has ls 5 [(0, .ref a0), (1, .long y1), (3, .int y2), (4, .int y3)] := hl
  have J0 : ∀ (H : Heap) (locs : List Loc) (ls : Array Slot), th_H D cT T (km q) H → va_S (th_A T [0]) s.heap H locs → lv_has ls 5 [(0, .ref a0), (1, .long y1), (3, .int y2), (4, .int y3)] → W p l e (rmk 3 67) s m [.ref a0, .long y1, .int y2, .int y3].toArray below meth c H locs 0 0 (MQ below (th_QM D cT T (fun v q2 => ∃ r : Int32, v = some (.int r) ∧ IV r (-2147483648) 2147483647 ∧ qkm q2 ∧ fr [27, 28, 29, 30, 31] q q2 ∧ ((q2 29 = 0 ∧ q2 27 = q2 26 ∧ q2 28 = q2 26) ∨ (1 ≤ q2 29 ∧ q2 27 < q2 28 ∧ q2 28 ≤ q2 26)) ∧ (q2 30 = 0 → q2 29 = 3 → sg q2 (q2 28) < 97 ∨ 122 < sg q2 (q2 28)) ∧ (q2 30 = 0 → q2 29 = 3 → q2 31 = 7237492 → q2 27 + 3 ≤ q2 28) ∧ (q 27 ≤ q2 27) ∧ (q2 30 = 0 → q 30 = 0 ∧ q 28 ≤ q2 27 ∧ q 29 ≠ 0)) [0]) [.ref a0, .long y1, .int y2, .int y3].toArray s 0 0 (th_A T [0])) (F0 m 0 ls []) := by
    intro H locs ls hH hS hl
    refine lv_aload_n hx hb dX11_after_0 rfl (lv_at hl 0 rfl) ?_
    refine lv_aload_n hx hb dX11_after_1 rfl (lv_at hl 0 rfl) ?_
    refine lv_lload_n hx hb dX11_after_2 rfl (lv_at hl 1 rfl) ?_
    refine th_callVp (n := 1) (As := [.long y1]) S hK hH hS (th_A.sub (by decide)) (m_X11_isWord l D cT T q hT hq a0 t0 (y1)) gm_1499 gm_1496 gm_1498 gm_52 gm_124 (by decide +kernel) ⟨rfl, rfl, Nat.le_of_ble_eq_true rfl, Nat.le_of_ble_eq_true rfl⟩ t0 km_0 rfl rfl hl.1 rfl (Nat.le_of_ble_eq_true rfl) dX11_after_3 ⟨Nat.zero_le _, Nat.zero_le _⟩ (fun x1 H locs ix1 ox1 hH hS hF1 => ?_)
    obtain ⟨ox1_0, ox1_1⟩ := ox1
    have ox1_0 : x1.toInt ≠ 0 → q 29 = 3 ∧ q 31 = y1.toInt := ox1_0
    have ox1_1 : x1.toInt = 0 → q 29 ≠ 3 ∨ q 31 ≠ y1.toInt := ox1_1
    have l1x1 := ix1.1; have l2x1 := ix1.2
    refine th_callVM (n := 1) (As := [.int x1]) S hK hH hS (th_A.sub (by decide)) (m_X11_must l D cT T q hT hq a0 t0 (x1) ix1 (show (q 29 = 0 ∧ q 27 = q 26 ∧ q 28 = q 26) ∨ (1 ≤ q 29 ∧ q 27 < q 28 ∧ q 28 ≤ q 26) by omega)) gm_1543 gm_1540 gm_1542 gm_63 gm_124 (by decide +kernel) ⟨rfl, rfl, Nat.le_of_ble_eq_true rfl, Nat.le_of_ble_eq_true rfl⟩ t0 km_0 rfl rfl hl.1 rfl (Nat.le_of_ble_eq_true rfl) dX11_after_6 ⟨Nat.zero_le _, Nat.zero_le _⟩ (fun wq2 q2 H locs hEq2 hH hS hF1 => ?_)
    obtain ⟨rfl, hqq2, g0q2, pq2_0, pq2_1, pq2_2, pq2_3, pq2_4⟩ := hEq2
    show W p l e (rmk 3 67) s m [.ref a0, .long y1, .int y2, .int y3].toArray below meth c H locs 0 0 (MQ below (th_QM D cT T (fun v q2 => ∃ r : Int32, v = some (.int r) ∧ IV r (-2147483648) 2147483647 ∧ qkm q2 ∧ fr [27, 28, 29, 30, 31] q q2 ∧ ((q2 29 = 0 ∧ q2 27 = q2 26 ∧ q2 28 = q2 26) ∨ (1 ≤ q2 29 ∧ q2 27 < q2 28 ∧ q2 28 ≤ q2 26)) ∧ (q2 30 = 0 → q2 29 = 3 → sg q2 (q2 28) < 97 ∨ 122 < sg q2 (q2 28)) ∧ (q2 30 = 0 → q2 29 = 3 → q2 31 = 7237492 → q2 27 + 3 ≤ q2 28) ∧ (q 27 ≤ q2 27) ∧ (q2 30 = 0 → q 30 = 0 ∧ q 28 ≤ q2 27 ∧ q 29 ≠ 0)) [0]) [.ref a0, .long y1, .int y2, .int y3].toArray s 0 0 (th_A T [0])) (F0 m 9 ls [])
    have pq2_0 : (q2 29 = 0 ∧ q2 27 = q2 26 ∧ q2 28 = q2 26) ∨ (1 ≤ q2 29 ∧ q2 27 < q2 28 ∧ q2 28 ≤ q2 26) := pq2_0
    have pq2_1 : q2 30 = 0 → q2 29 = 3 → sg q2 (q2 28) < 97 ∨ 122 < sg q2 (q2 28) := pq2_1
    have pq2_2 : q2 30 = 0 → q2 29 = 3 → q2 31 = 7237492 → q2 27 + 3 ≤ q2 28 := pq2_2
    have pq2_3 : q 27 ≤ q2 27 := pq2_3
    have pq2_4 : q2 30 = 0 → q 30 = 0 ∧ x1.toInt ≠ 0 ∧ q 28 ≤ q2 27 := pq2_4
    have wq2_26 : q2 26 = q 26 := g0q2 26 (by decide) (Or.inl (by decide))
    have h0q2 : fr [27, 28, 29, 30, 31] q q2 := fr_tr fr_rf g0q2 (by decide)
    refine lv_aload_n hx hb dX11_after_9 rfl (lv_at hl 0 rfl) ?_
    refine lv_iload_n hx hb dX11_after_10 rfl (lv_at hl 2 rfl) ?_
    refine lv_iload hx hb dX11_after_11 (lv_at hl 3 rfl) ?_
    refine th_callVM (n := 2) (As := [.int y2, .int y3]) S hK hH hS (th_A.sub (by decide)) (m_X11_numeral l D cT T q2 hT hqq2 a0 t0 (y2) j2 (y3) j3 (show (q2 29 = 0 ∧ q2 27 = q2 26 ∧ q2 28 = q2 26) ∨ (1 ≤ q2 29 ∧ q2 27 < q2 28 ∧ q2 28 ≤ q2 26) by omega)) gm_1527 gm_1524 gm_1526 gm_59 gm_124 (by decide +kernel) ⟨rfl, rfl, Nat.le_of_ble_eq_true rfl, Nat.le_of_ble_eq_true rfl⟩ t0 km_0 rfl rfl hl.1 rfl (Nat.le_of_ble_eq_true rfl) dX11_after_13 ⟨Nat.zero_le _, Nat.zero_le _⟩ (fun wq3 q3 H locs hEq3 hH hS hF1 => ?_)
    obtain ⟨x4, rfl, ix4, hqq3, g0q3, pq3_0, pq3_1, pq3_2, pq3_3, pq3_4⟩ := hEq3
    show W p l e (rmk 3 67) s m [.ref a0, .long y1, .int y2, .int y3].toArray below meth c H locs 0 0 (MQ below (th_QM D cT T (fun v q2 => ∃ r : Int32, v = some (.int r) ∧ IV r (-2147483648) 2147483647 ∧ qkm q2 ∧ fr [27, 28, 29, 30, 31] q q2 ∧ ((q2 29 = 0 ∧ q2 27 = q2 26 ∧ q2 28 = q2 26) ∨ (1 ≤ q2 29 ∧ q2 27 < q2 28 ∧ q2 28 ≤ q2 26)) ∧ (q2 30 = 0 → q2 29 = 3 → sg q2 (q2 28) < 97 ∨ 122 < sg q2 (q2 28)) ∧ (q2 30 = 0 → q2 29 = 3 → q2 31 = 7237492 → q2 27 + 3 ≤ q2 28) ∧ (q 27 ≤ q2 27) ∧ (q2 30 = 0 → q 30 = 0 ∧ q 28 ≤ q2 27 ∧ q 29 ≠ 0)) [0]) [.ref a0, .long y1, .int y2, .int y3].toArray s 0 0 (th_A T [0])) (F0 m 16 ls [.int x4])
    have pq3_0 : (q3 29 = 0 ∧ q3 27 = q3 26 ∧ q3 28 = q3 26) ∨ (1 ≤ q3 29 ∧ q3 27 < q3 28 ∧ q3 28 ≤ q3 26) := pq3_0
    have pq3_1 : q3 30 = 0 → q3 29 = 3 → sg q3 (q3 28) < 97 ∨ 122 < sg q3 (q3 28) := pq3_1
    have pq3_2 : q3 30 = 0 → q3 29 = 3 → q3 31 = 7237492 → q3 27 + 3 ≤ q3 28 := pq3_2
    have pq3_3 : q2 27 ≤ q3 27 := pq3_3
    have pq3_4 : q3 30 = 0 → q2 30 = 0 ∧ q2 28 ≤ q3 27 ∧ q2 29 ≠ 0 := pq3_4
    have wq3_26 : q3 26 = q2 26 := g0q3 26 (by decide) (Or.inl (by decide))
    have h0q3 : fr [27, 28, 29, 30, 31] q q3 := fr_tr h0q2 g0q3 (by decide)
    exact th_iretM S hK hH hS hr hlocks ⟨_, rfl, ix4, hqq3, h0q3, (show (q3 29 = 0 ∧ q3 27 = q3 26 ∧ q3 28 = q3 26) ∨ (1 ≤ q3 29 ∧ q3 27 < q3 28 ∧ q3 28 ≤ q3 26) by omega), (show q3 30 = 0 → q3 29 = 3 → sg q3 (q3 28) < 97 ∨ 122 < sg q3 (q3 28) by first | assumption | (intro z; exact absurd z (by omega)) | (intro _; assumption)), (show q3 30 = 0 → q3 29 = 3 → q3 31 = 7237492 → q3 27 + 3 ≤ q3 28 by first | assumption | omega), (show q 27 ≤ q3 27 by omega), (show q3 30 = 0 → q 30 = 0 ∧ q 28 ≤ q3 27 ∧ q 29 ≠ 0 by omega)⟩ dX11_after_16
  exact J0 s.heap [] ls hH va_S.rf hl

set_option maxHeartbeats 20000000 in
set_option maxRecDepth 100000 in
theorem m_X11_isFull (l : Launch) (D : va_G) (cT : Nat → ClassId) (T : Nat → Option Nat) (q : Nat → Int) (hT : tokm T) (hq : qkm q) (a0 : Nat) (t0 : T a0 = some 0) : th_Met l D cT T (km q) yX11_isFull cX11_isFull 1 (some .boolean) (rmk 1 22) [.ref a0] (th_R T (some (.inl (0, 1)))) [] := by
  refine th_start (by decide) (Nat.le_of_ble_eq_true rfl) ?_
  intro p e s m below meth c ls S hK hH hr hlocks hnm hl
  have hx := S.1
  have hb := S.2.1
  have hl : lv_has ls 1 [(0, .ref a0)] := hl
  have J215_s0_0 : ∀ (H : Heap) (locs : List Loc) (ls : Array Slot), th_H D cT T (km q) H → va_S (th_A T []) s.heap H locs → lv_has ls 1 [] → W p l e (rmk 1 22) s m [.ref a0].toArray below meth c H locs 0 0 (MQ below (th_Q D cT T (km q) (th_R T (some (.inl (0, 1)))) []) [.ref a0].toArray s 0 0 (th_A T [])) (F0 m 215 ls [.int 0]) := by
    intro H locs ls hH hS hl
    exact th_zret S hK hH hS hr hlocks (iv_w (iv_c (by decide) : IV 0 0 0) (by decide)) (th_R.i (iv_w (iv_c (by decide) : IV 0 0 0) (by decide))) dX11_isFull_215
  have J215_s0_1 : ∀ (H : Heap) (locs : List Loc) (ls : Array Slot), th_H D cT T (km q) H → va_S (th_A T []) s.heap H locs → lv_has ls 1 [] → W p l e (rmk 1 22) s m [.ref a0].toArray below meth c H locs 0 0 (MQ below (th_Q D cT T (km q) (th_R T (some (.inl (0, 1)))) []) [.ref a0].toArray s 0 0 (th_A T [])) (F0 m 215 ls [.int 1]) := by
    intro H locs ls hH hS hl
    exact th_zret S hK hH hS hr hlocks (iv_w (iv_c (by decide) : IV 1 1 1) (by decide)) (th_R.i (iv_w (iv_c (by decide) : IV 1 1 1) (by decide))) dX11_isFull_215
  have J210 : ∀ (H : Heap) (locs : List Loc) (ls : Array Slot), th_H D cT T (km q) H → va_S (th_A T []) s.heap H locs → lv_has ls 1 [] → W p l e (rmk 1 22) s m [.ref a0].toArray below meth c H locs 0 0 (MQ below (th_Q D cT T (km q) (th_R T (some (.inl (0, 1)))) []) [.ref a0].toArray s 0 0 (th_A T [])) (F0 m 210 ls []) := by
    intro H locs ls hH hS hl
    refine lv_iconst (v := 1) hx hb dX11_isFull_210 (by decide) ?_
    refine lv_goto (tgt := 215) hx hb dX11_isFull_211 (by decide) ?_
    exact J215_s0_1 H locs ls  hH hS (lv_sub hl [] rfl)
  have J147_s0_0 : ∀ (H : Heap) (locs : List Loc) (ls : Array Slot), th_H D cT T (km q) H → va_S (th_A T []) s.heap H locs → lv_has ls 1 [] → W p l e (rmk 1 22) s m [.ref a0].toArray below meth c H locs 0 0 (MQ below (th_Q D cT T (km q) (th_R T (some (.inl (0, 1)))) []) [.ref a0].toArray s 0 0 (th_A T [])) (F0 m 147 ls [.int 0]) := by
    intro H locs ls hH hS hl
    exact th_zret S hK hH hS hr hlocks (iv_w (iv_c (by decide) : IV 0 0 0) (by decide)) (th_R.i (iv_w (iv_c (by decide) : IV 0 0 0) (by decide))) dX11_isFull_147
  have J147_s0_1 : ∀ (H : Heap) (locs : List Loc) (ls : Array Slot), th_H D cT T (km q) H → va_S (th_A T []) s.heap H locs → lv_has ls 1 [] → W p l e (rmk 1 22) s m [.ref a0].toArray below meth c H locs 0 0 (MQ below (th_Q D cT T (km q) (th_R T (some (.inl (0, 1)))) []) [.ref a0].toArray s 0 0 (th_A T [])) (F0 m 147 ls [.int 1]) := by
    intro H locs ls hH hS hl
    exact th_zret S hK hH hS hr hlocks (iv_w (iv_c (by decide) : IV 1 1 1) (by decide)) (th_R.i (iv_w (iv_c (by decide) : IV 1 1 1) (by decide))) dX11_isFull_147
  have J117_s0_0 : ∀ (H : Heap) (locs : List Loc) (ls : Array Slot), th_H D cT T (km q) H → va_S (th_A T []) s.heap H locs → lv_has ls 1 [] → W p l e (rmk 1 22) s m [.ref a0].toArray below meth c H locs 0 0 (MQ below (th_Q D cT T (km q) (th_R T (some (.inl (0, 1)))) []) [.ref a0].toArray s 0 0 (th_A T [])) (F0 m 117 ls [.int 0]) := by
    intro H locs ls hH hS hl
    exact th_zret S hK hH hS hr hlocks (iv_w (iv_c (by decide) : IV 0 0 0) (by decide)) (th_R.i (iv_w (iv_c (by decide) : IV 0 0 0) (by decide))) dX11_isFull_117
  have J117_s0_1 : ∀ (H : Heap) (locs : List Loc) (ls : Array Slot), th_H D cT T (km q) H → va_S (th_A T []) s.heap H locs → lv_has ls 1 [] → W p l e (rmk 1 22) s m [.ref a0].toArray below meth c H locs 0 0 (MQ below (th_Q D cT T (km q) (th_R T (some (.inl (0, 1)))) []) [.ref a0].toArray s 0 0 (th_A T [])) (F0 m 117 ls [.int 1]) := by
    intro H locs ls hH hS hl
    exact th_zret S hK hH hS hr hlocks (iv_w (iv_c (by decide) : IV 1 1 1) (by decide)) (th_R.i (iv_w (iv_c (by decide) : IV 1 1 1) (by decide))) dX11_isFull_117
  have J87_s0_0 : ∀ (H : Heap) (locs : List Loc) (ls : Array Slot), th_H D cT T (km q) H → va_S (th_A T []) s.heap H locs → lv_has ls 1 [] → W p l e (rmk 1 22) s m [.ref a0].toArray below meth c H locs 0 0 (MQ below (th_Q D cT T (km q) (th_R T (some (.inl (0, 1)))) []) [.ref a0].toArray s 0 0 (th_A T [])) (F0 m 87 ls [.int 0]) := by
    intro H locs ls hH hS hl
    exact th_zret S hK hH hS hr hlocks (iv_w (iv_c (by decide) : IV 0 0 0) (by decide)) (th_R.i (iv_w (iv_c (by decide) : IV 0 0 0) (by decide))) dX11_isFull_87
  have J87_s0_1 : ∀ (H : Heap) (locs : List Loc) (ls : Array Slot), th_H D cT T (km q) H → va_S (th_A T []) s.heap H locs → lv_has ls 1 [] → W p l e (rmk 1 22) s m [.ref a0].toArray below meth c H locs 0 0 (MQ below (th_Q D cT T (km q) (th_R T (some (.inl (0, 1)))) []) [.ref a0].toArray s 0 0 (th_A T [])) (F0 m 87 ls [.int 1]) := by
    intro H locs ls hH hS hl
    exact th_zret S hK hH hS hr hlocks (iv_w (iv_c (by decide) : IV 1 1 1) (by decide)) (th_R.i (iv_w (iv_c (by decide) : IV 1 1 1) (by decide))) dX11_isFull_87
  have J57_s0_0 : ∀ (H : Heap) (locs : List Loc) (ls : Array Slot), th_H D cT T (km q) H → va_S (th_A T []) s.heap H locs → lv_has ls 1 [] → W p l e (rmk 1 22) s m [.ref a0].toArray below meth c H locs 0 0 (MQ below (th_Q D cT T (km q) (th_R T (some (.inl (0, 1)))) []) [.ref a0].toArray s 0 0 (th_A T [])) (F0 m 57 ls [.int 0]) := by
    intro H locs ls hH hS hl
    exact th_zret S hK hH hS hr hlocks (iv_w (iv_c (by decide) : IV 0 0 0) (by decide)) (th_R.i (iv_w (iv_c (by decide) : IV 0 0 0) (by decide))) dX11_isFull_57
  have J57_s0_1 : ∀ (H : Heap) (locs : List Loc) (ls : Array Slot), th_H D cT T (km q) H → va_S (th_A T []) s.heap H locs → lv_has ls 1 [] → W p l e (rmk 1 22) s m [.ref a0].toArray below meth c H locs 0 0 (MQ below (th_Q D cT T (km q) (th_R T (some (.inl (0, 1)))) []) [.ref a0].toArray s 0 0 (th_A T [])) (F0 m 57 ls [.int 1]) := by
    intro H locs ls hH hS hl
    exact th_zret S hK hH hS hr hlocks (iv_w (iv_c (by decide) : IV 1 1 1) (by decide)) (th_R.i (iv_w (iv_c (by decide) : IV 1 1 1) (by decide))) dX11_isFull_57
  have J28_s0_0 : ∀ (H : Heap) (locs : List Loc) (ls : Array Slot), th_H D cT T (km q) H → va_S (th_A T []) s.heap H locs → lv_has ls 1 [] → W p l e (rmk 1 22) s m [.ref a0].toArray below meth c H locs 0 0 (MQ below (th_Q D cT T (km q) (th_R T (some (.inl (0, 1)))) []) [.ref a0].toArray s 0 0 (th_A T [])) (F0 m 28 ls [.int 0]) := by
    intro H locs ls hH hS hl
    exact th_zret S hK hH hS hr hlocks (iv_w (iv_c (by decide) : IV 0 0 0) (by decide)) (th_R.i (iv_w (iv_c (by decide) : IV 0 0 0) (by decide))) dX11_isFull_28
  have J28_s0_1 : ∀ (H : Heap) (locs : List Loc) (ls : Array Slot), th_H D cT T (km q) H → va_S (th_A T []) s.heap H locs → lv_has ls 1 [] → W p l e (rmk 1 22) s m [.ref a0].toArray below meth c H locs 0 0 (MQ below (th_Q D cT T (km q) (th_R T (some (.inl (0, 1)))) []) [.ref a0].toArray s 0 0 (th_A T [])) (F0 m 28 ls [.int 1]) := by
    intro H locs ls hH hS hl
    exact th_zret S hK hH hS hr hlocks (iv_w (iv_c (by decide) : IV 1 1 1) (by decide)) (th_R.i (iv_w (iv_c (by decide) : IV 1 1 1) (by decide))) dX11_isFull_28
  have J0 : ∀ (H : Heap) (locs : List Loc) (ls : Array Slot), th_H D cT T (km q) H → va_S (th_A T []) s.heap H locs → lv_has ls 1 [(0, .ref a0)] → W p l e (rmk 1 22) s m [.ref a0].toArray below meth c H locs 0 0 (MQ below (th_Q D cT T (km q) (th_R T (some (.inl (0, 1)))) []) [.ref a0].toArray s 0 0 (th_A T [])) (F0 m 0 ls []) := by
    intro H locs ls hH hS hl
    refine lv_aload_n hx hb dX11_isFull_0 rfl (lv_at hl 0 rfl) ?_
    refine lv_ldc2 (v := 1718579044) hx hb S.2.2.2.1 (S.2.2.2.2 _ gm_1456) dX11_isFull_1 ?_
    refine th_callVp (n := 1) (As := [.long 1718579044]) S hK hH hS (th_A.sub (by decide)) (m_X11_isWord l D cT T q hT hq a0 t0 (1718579044)) gm_1499 gm_1496 gm_1498 gm_52 gm_124 (by decide +kernel) ⟨rfl, rfl, Nat.le_of_ble_eq_true rfl, Nat.le_of_ble_eq_true rfl⟩ t0 km_0 rfl rfl hl.1 rfl (Nat.le_of_ble_eq_true rfl) dX11_isFull_4 ⟨Nat.zero_le _, Nat.zero_le _⟩ (fun x1 H locs ix1 ox1 hH hS hF1 => ?_)
    obtain ⟨ox1_0, ox1_1⟩ := ox1
    have ox1_0 : x1.toInt ≠ 0 → q 29 = 3 ∧ q 31 = (1718579044 : Int) := ox1_0
    have ox1_1 : x1.toInt = 0 → q 29 ≠ 3 ∨ q 31 ≠ (1718579044 : Int) := ox1_1
    refine lv_if_eq (tgt := 29) hx hb dX11_isFull_7 (by decide) (fun c2 => ?_) (fun c2 => ?_)
    · skip
      have rlc2 : x1.toInt = (0 : Int) := congrArg Int32.toInt c2
      have ir3 : IV x1 0 0 := iv_eL c2 (iv_c (by decide) : IV 0 0 0)
      have ir3a := ir3.1; have ir3b := ir3.2
      refine lv_aload_n hx hb dX11_isFull_29 rfl (lv_at hl 0 rfl) ?_
      refine lv_ldc2 (v := 7168368) hx hb S.2.2.2.1 (S.2.2.2.2 _ gm_1457) dX11_isFull_30 ?_
      refine th_callVp (n := 1) (As := [.long 7168368]) S hK hH hS (th_A.sub (by decide)) (m_X11_isWord l D cT T q hT hq a0 t0 (7168368)) gm_1499 gm_1496 gm_1498 gm_52 gm_124 (by decide +kernel) ⟨rfl, rfl, Nat.le_of_ble_eq_true rfl, Nat.le_of_ble_eq_true rfl⟩ t0 km_0 rfl rfl hl.1 rfl (Nat.le_of_ble_eq_true rfl) dX11_isFull_33 ⟨Nat.zero_le _, Nat.zero_le _⟩ (fun x4 H locs ix4 ox4 hH hS hF1 => ?_)
      obtain ⟨ox4_0, ox4_1⟩ := ox4
      have ox4_0 : x4.toInt ≠ 0 → q 29 = 3 ∧ q 31 = (7168368 : Int) := ox4_0
      have ox4_1 : x4.toInt = 0 → q 29 ≠ 3 ∨ q 31 ≠ (7168368 : Int) := ox4_1
      refine lv_if_eq (tgt := 58) hx hb dX11_isFull_36 (by decide) (fun c5 => ?_) (fun c5 => ?_)
      · skip
        have rlc5 : x4.toInt = (0 : Int) := congrArg Int32.toInt c5
        have ir6 : IV x4 0 0 := iv_eL c5 (iv_c (by decide) : IV 0 0 0)
        have ir6a := ir6.1; have ir6b := ir6.2
        refine lv_aload_n hx hb dX11_isFull_58 rfl (lv_at hl 0 rfl) ?_
        refine lv_ldc2 (v := 482854658917) hx hb S.2.2.2.1 (S.2.2.2.2 _ gm_1462) dX11_isFull_59 ?_
        refine th_callVp (n := 1) (As := [.long 482854658917]) S hK hH hS (th_A.sub (by decide)) (m_X11_isWord l D cT T q hT hq a0 t0 (482854658917)) gm_1499 gm_1496 gm_1498 gm_52 gm_124 (by decide +kernel) ⟨rfl, rfl, Nat.le_of_ble_eq_true rfl, Nat.le_of_ble_eq_true rfl⟩ t0 km_0 rfl rfl hl.1 rfl (Nat.le_of_ble_eq_true rfl) dX11_isFull_62 ⟨Nat.zero_le _, Nat.zero_le _⟩ (fun x7 H locs ix7 ox7 hH hS hF1 => ?_)
        obtain ⟨ox7_0, ox7_1⟩ := ox7
        have ox7_0 : x7.toInt ≠ 0 → q 29 = 3 ∧ q 31 = (482854658917 : Int) := ox7_0
        have ox7_1 : x7.toInt = 0 → q 29 ≠ 3 ∨ q 31 ≠ (482854658917 : Int) := ox7_1
        refine lv_if_eq (tgt := 88) hx hb dX11_isFull_65 (by decide) (fun c8 => ?_) (fun c8 => ?_)
        · skip
          have rlc8 : x7.toInt = (0 : Int) := congrArg Int32.toInt c8
          have ir9 : IV x7 0 0 := iv_eL c8 (iv_c (by decide) : IV 0 0 0)
          have ir9a := ir9.1; have ir9b := ir9.2
          refine lv_aload_n hx hb dX11_isFull_88 rfl (lv_at hl 0 rfl) ?_
          refine lv_ldc2 (v := 465625113971) hx hb S.2.2.2.1 (S.2.2.2.2 _ gm_1466) dX11_isFull_89 ?_
          refine th_callVp (n := 1) (As := [.long 465625113971]) S hK hH hS (th_A.sub (by decide)) (m_X11_isWord l D cT T q hT hq a0 t0 (465625113971)) gm_1499 gm_1496 gm_1498 gm_52 gm_124 (by decide +kernel) ⟨rfl, rfl, Nat.le_of_ble_eq_true rfl, Nat.le_of_ble_eq_true rfl⟩ t0 km_0 rfl rfl hl.1 rfl (Nat.le_of_ble_eq_true rfl) dX11_isFull_92 ⟨Nat.zero_le _, Nat.zero_le _⟩ (fun x10 H locs ix10 ox10 hH hS hF1 => ?_)
          obtain ⟨ox10_0, ox10_1⟩ := ox10
          have ox10_0 : x10.toInt ≠ 0 → q 29 = 3 ∧ q 31 = (465625113971 : Int) := ox10_0
          have ox10_1 : x10.toInt = 0 → q 29 ≠ 3 ∨ q 31 ≠ (465625113971 : Int) := ox10_1
          refine lv_if_eq (tgt := 118) hx hb dX11_isFull_95 (by decide) (fun c11 => ?_) (fun c11 => ?_)
          · skip
            have rlc11 : x10.toInt = (0 : Int) := congrArg Int32.toInt c11
            have ir12 : IV x10 0 0 := iv_eL c11 (iv_c (by decide) : IV 0 0 0)
            have ir12a := ir12.1; have ir12b := ir12.2
            refine lv_aload_n hx hb dX11_isFull_118 rfl (lv_at hl 0 rfl) ?_
            refine lv_ldc2 (v := 108230800074098) hx hb S.2.2.2.1 (S.2.2.2.2 _ gm_1467) dX11_isFull_119 ?_
            refine th_callVp (n := 1) (As := [.long 108230800074098]) S hK hH hS (th_A.sub (by decide)) (m_X11_isWord l D cT T q hT hq a0 t0 (108230800074098)) gm_1499 gm_1496 gm_1498 gm_52 gm_124 (by decide +kernel) ⟨rfl, rfl, Nat.le_of_ble_eq_true rfl, Nat.le_of_ble_eq_true rfl⟩ t0 km_0 rfl rfl hl.1 rfl (Nat.le_of_ble_eq_true rfl) dX11_isFull_122 ⟨Nat.zero_le _, Nat.zero_le _⟩ (fun x13 H locs ix13 ox13 hH hS hF1 => ?_)
            obtain ⟨ox13_0, ox13_1⟩ := ox13
            have ox13_0 : x13.toInt ≠ 0 → q 29 = 3 ∧ q 31 = (108230800074098 : Int) := ox13_0
            have ox13_1 : x13.toInt = 0 → q 29 ≠ 3 ∨ q 31 ≠ (108230800074098 : Int) := ox13_1
            refine lv_if_eq (tgt := 148) hx hb dX11_isFull_125 (by decide) (fun c14 => ?_) (fun c14 => ?_)
            · skip
              have rlc14 : x13.toInt = (0 : Int) := congrArg Int32.toInt c14
              have ir15 : IV x13 0 0 := iv_eL c14 (iv_c (by decide) : IV 0 0 0)
              have ir15a := ir15.1; have ir15b := ir15.2
              refine lv_aload_n hx hb dX11_isFull_148 rfl (lv_at hl 0 rfl) ?_
              refine lv_ldc2 (v := 499851162725) hx hb S.2.2.2.1 (S.2.2.2.2 _ gm_1468) dX11_isFull_149 ?_
              refine th_callVp (n := 1) (As := [.long 499851162725]) S hK hH hS (th_A.sub (by decide)) (m_X11_isWord l D cT T q hT hq a0 t0 (499851162725)) gm_1499 gm_1496 gm_1498 gm_52 gm_124 (by decide +kernel) ⟨rfl, rfl, Nat.le_of_ble_eq_true rfl, Nat.le_of_ble_eq_true rfl⟩ t0 km_0 rfl rfl hl.1 rfl (Nat.le_of_ble_eq_true rfl) dX11_isFull_152 ⟨Nat.zero_le _, Nat.zero_le _⟩ (fun x16 H locs ix16 ox16 hH hS hF1 => ?_)
              obtain ⟨ox16_0, ox16_1⟩ := ox16
              have ox16_0 : x16.toInt ≠ 0 → q 29 = 3 ∧ q 31 = (499851162725 : Int) := ox16_0
              have ox16_1 : x16.toInt = 0 → q 29 ≠ 3 ∨ q 31 ≠ (499851162725 : Int) := ox16_1
              refine lv_if_eq (tgt := 168) hx hb dX11_isFull_155 (by decide) (fun c17 => ?_) (fun c17 => ?_)
              · skip
                have rlc17 : x16.toInt = (0 : Int) := congrArg Int32.toInt c17
                have ir18 : IV x16 0 0 := iv_eL c17 (iv_c (by decide) : IV 0 0 0)
                have ir18a := ir18.1; have ir18b := ir18.2
                refine lv_aload_n hx hb dX11_isFull_168 rfl (lv_at hl 0 rfl) ?_
                refine lv_ldc2 (v := 131294708393330) hx hb S.2.2.2.1 (S.2.2.2.2 _ gm_1469) dX11_isFull_169 ?_
                refine th_callVp (n := 1) (As := [.long 131294708393330]) S hK hH hS (th_A.sub (by decide)) (m_X11_isWord l D cT T q hT hq a0 t0 (131294708393330)) gm_1499 gm_1496 gm_1498 gm_52 gm_124 (by decide +kernel) ⟨rfl, rfl, Nat.le_of_ble_eq_true rfl, Nat.le_of_ble_eq_true rfl⟩ t0 km_0 rfl rfl hl.1 rfl (Nat.le_of_ble_eq_true rfl) dX11_isFull_172 ⟨Nat.zero_le _, Nat.zero_le _⟩ (fun x19 H locs ix19 ox19 hH hS hF1 => ?_)
                obtain ⟨ox19_0, ox19_1⟩ := ox19
                have ox19_0 : x19.toInt ≠ 0 → q 29 = 3 ∧ q 31 = (131294708393330 : Int) := ox19_0
                have ox19_1 : x19.toInt = 0 → q 29 ≠ 3 ∨ q 31 ≠ (131294708393330 : Int) := ox19_1
                refine lv_if_eq (tgt := 188) hx hb dX11_isFull_175 (by decide) (fun c20 => ?_) (fun c20 => ?_)
                · skip
                  have rlc20 : x19.toInt = (0 : Int) := congrArg Int32.toInt c20
                  have ir21 : IV x19 0 0 := iv_eL c20 (iv_c (by decide) : IV 0 0 0)
                  have ir21a := ir21.1; have ir21b := ir21.2
                  refine lv_aload_n hx hb dX11_isFull_188 rfl (lv_at hl 0 rfl) ?_
                  refine lv_ldc2 (v := 1685217655) hx hb S.2.2.2.1 (S.2.2.2.2 _ gm_1470) dX11_isFull_189 ?_
                  refine th_callVp (n := 1) (As := [.long 1685217655]) S hK hH hS (th_A.sub (by decide)) (m_X11_isWord l D cT T q hT hq a0 t0 (1685217655)) gm_1499 gm_1496 gm_1498 gm_52 gm_124 (by decide +kernel) ⟨rfl, rfl, Nat.le_of_ble_eq_true rfl, Nat.le_of_ble_eq_true rfl⟩ t0 km_0 rfl rfl hl.1 rfl (Nat.le_of_ble_eq_true rfl) dX11_isFull_192 ⟨Nat.zero_le _, Nat.zero_le _⟩ (fun x22 H locs ix22 ox22 hH hS hF1 => ?_)
                  obtain ⟨ox22_0, ox22_1⟩ := ox22
                  have ox22_0 : x22.toInt ≠ 0 → q 29 = 3 ∧ q 31 = (1685217655 : Int) := ox22_0
                  have ox22_1 : x22.toInt = 0 → q 29 ≠ 3 ∨ q 31 ≠ (1685217655 : Int) := ox22_1
                  refine lv_if_eq (tgt := 210) hx hb dX11_isFull_195 (by decide) (fun c23 => ?_) (fun c23 => ?_)
                  · skip
                    have rlc23 : x22.toInt = (0 : Int) := congrArg Int32.toInt c23
                    have ir24 : IV x22 0 0 := iv_eL c23 (iv_c (by decide) : IV 0 0 0)
                    have ir24a := ir24.1; have ir24b := ir24.2
                    exact J210 H locs ls  hH hS (lv_sub hl [] rfl)
                  · skip
                    have rlc23 : x22.toInt ≠ (0 : Int) := iv_ne c23
                    have ir25 : IV x22 1 1 := iv_cutL ix22 (iv_c (by decide) : IV 0 0 0) c23 (by decide)
                    have ir25a := ir25.1; have ir25b := ir25.2
                    refine lv_aload_n hx hb dX11_isFull_198 rfl (lv_at hl 0 rfl) ?_
                    refine th_get S hK hH inG11 t0 km_0 rfl 32 (by decide) gm_1262 rfl rfl dX11_isFull_199 (fun v26 hv26 fv26 => ?_)
                    obtain ⟨rf27, rfl, trf27⟩ := th_V.ref hv26
                    refine lv_aload_n hx hb dX11_isFull_202 rfl (lv_at hl 0 rfl) ?_
                    refine th_get S hK hH inG11 t0 km_0 rfl 42 (by decide) gm_1272 rfl rfl dX11_isFull_203 (fun v28 hv28 fv28 => ?_)
                    obtain ⟨x29, rfl, ix29⟩ := th_V.int hv28
                    have kx29a : q 13 ≤ x29.toInt := ix29.1
                    have kx29b : x29.toInt ≤ q 13 := ix29.2
                    have ix29 : IV x29 0 1 := iv_w ix29 (qkm_13 hq)
                    refine th_zald S hK hH trf27 km_24 (th_in (hi := 1) ix29 (by decide)) dX11_isFull_206 (fun v30 hv30 => ?_)
                    obtain ⟨x31, rfl, ix31⟩ := th_V.int hv30
                    refine lv_if_eq (tgt := 214) hx hb dX11_isFull_207 (by decide) (fun c32 => ?_) (fun c32 => ?_)
                    · skip
                      have rlc32 : x31.toInt = (0 : Int) := congrArg Int32.toInt c32
                      have ir33 : IV x31 0 0 := iv_eL c32 (iv_c (by decide) : IV 0 0 0)
                      have ir33a := ir33.1; have ir33b := ir33.2
                      refine lv_iconst (v := 0) hx hb dX11_isFull_214 (by decide) ?_
                      exact J215_s0_0 H locs ls  hH hS (lv_sub hl [] rfl)
                    · skip
                      have rlc32 : x31.toInt ≠ (0 : Int) := iv_ne c32
                      have ir34 : IV x31 1 1 := iv_cutL ix31 (iv_c (by decide) : IV 0 0 0) c32 (by decide)
                      have ir34a := ir34.1; have ir34b := ir34.2
                      exact J210 H locs ls  hH hS (lv_sub hl [] rfl)
                · skip
                  have rlc20 : x19.toInt ≠ (0 : Int) := iv_ne c20
                  have ir35 : IV x19 1 1 := iv_cutL ix19 (iv_c (by decide) : IV 0 0 0) c20 (by decide)
                  have ir35a := ir35.1; have ir35b := ir35.2
                  refine lv_aload_n hx hb dX11_isFull_178 rfl (lv_at hl 0 rfl) ?_
                  refine th_get S hK hH inG11 t0 km_0 rfl 31 (by decide) gm_1261 rfl rfl dX11_isFull_179 (fun v36 hv36 fv36 => ?_)
                  obtain ⟨rf37, rfl, trf37⟩ := th_V.ref hv36
                  refine lv_aload_n hx hb dX11_isFull_182 rfl (lv_at hl 0 rfl) ?_
                  refine th_get S hK hH inG11 t0 km_0 rfl 42 (by decide) gm_1272 rfl rfl dX11_isFull_183 (fun v38 hv38 fv38 => ?_)
                  obtain ⟨x39, rfl, ix39⟩ := th_V.int hv38
                  have kx39a : q 13 ≤ x39.toInt := ix39.1
                  have kx39b : x39.toInt ≤ q 13 := ix39.2
                  have ix39 : IV x39 0 1 := iv_w ix39 (qkm_13 hq)
                  refine th_zald S hK hH trf37 km_23 (th_in (hi := 1) ix39 (by decide)) dX11_isFull_186 (fun v40 hv40 => ?_)
                  obtain ⟨x41, rfl, ix41⟩ := th_V.int hv40
                  exact th_zret S hK hH hS hr hlocks ix41 (th_R.i ix41) dX11_isFull_187
              · skip
                have rlc17 : x16.toInt ≠ (0 : Int) := iv_ne c17
                have ir42 : IV x16 1 1 := iv_cutL ix16 (iv_c (by decide) : IV 0 0 0) c17 (by decide)
                have ir42a := ir42.1; have ir42b := ir42.2
                refine lv_aload_n hx hb dX11_isFull_158 rfl (lv_at hl 0 rfl) ?_
                refine th_get S hK hH inG11 t0 km_0 rfl 30 (by decide) gm_1260 rfl rfl dX11_isFull_159 (fun v43 hv43 fv43 => ?_)
                obtain ⟨rf44, rfl, trf44⟩ := th_V.ref hv43
                refine lv_aload_n hx hb dX11_isFull_162 rfl (lv_at hl 0 rfl) ?_
                refine th_get S hK hH inG11 t0 km_0 rfl 42 (by decide) gm_1272 rfl rfl dX11_isFull_163 (fun v45 hv45 fv45 => ?_)
                obtain ⟨x46, rfl, ix46⟩ := th_V.int hv45
                have kx46a : q 13 ≤ x46.toInt := ix46.1
                have kx46b : x46.toInt ≤ q 13 := ix46.2
                have ix46 : IV x46 0 1 := iv_w ix46 (qkm_13 hq)
                refine th_zald S hK hH trf44 km_22 (th_in (hi := 1) ix46 (by decide)) dX11_isFull_166 (fun v47 hv47 => ?_)
                obtain ⟨x48, rfl, ix48⟩ := th_bkU (lo := 0) (hi := 1) hv47 (qkm_12 hq) (qkm_15 hq)
                exact th_zret S hK hH hS hr hlocks ix48 (th_R.i ix48) dX11_isFull_167
            · skip
              have rlc14 : x13.toInt ≠ (0 : Int) := iv_ne c14
              have ir49 : IV x13 1 1 := iv_cutL ix13 (iv_c (by decide) : IV 0 0 0) c14 (by decide)
              have ir49a := ir49.1; have ir49b := ir49.2
              refine lv_aload_n hx hb dX11_isFull_128 rfl (lv_at hl 0 rfl) ?_
              refine th_get S hK hH inG11 t0 km_0 rfl 15 (by decide) gm_1245 rfl rfl dX11_isFull_129 (fun v50 hv50 fv50 => ?_)
              obtain ⟨rf51, rfl, trf51⟩ := th_V.ref hv50
              refine lv_aload_n hx hb dX11_isFull_132 rfl (lv_at hl 0 rfl) ?_
              refine th_get S hK hH inG11 t0 km_0 rfl 42 (by decide) gm_1272 rfl rfl dX11_isFull_133 (fun v52 hv52 fv52 => ?_)
              obtain ⟨x53, rfl, ix53⟩ := th_V.int hv52
              have kx53a : q 13 ≤ x53.toInt := ix53.1
              have kx53b : x53.toInt ≤ q 13 := ix53.2
              have ix53 : IV x53 0 1 := iv_w ix53 (qkm_13 hq)
              refine th_iald S hK hH trf51 km_7 (th_in (hi := 1) ix53 (by decide)) dX11_isFull_136 (fun v54 hv54 => ?_)
              obtain ⟨x55, rfl, ix55⟩ := th_V.int hv54
              refine lv_bipush (v := 6) hx hb dX11_isFull_137 (by decide) ?_
              refine lv_icmp_ne (tgt := 146) hx hb dX11_isFull_139 (by decide) (fun c56 => ?_) (fun c56 => ?_)
              · skip
                have rlc56 : x55.toInt ≠ (6 : Int) := iv_ne c56
                refine lv_iconst (v := 0) hx hb dX11_isFull_146 (by decide) ?_
                exact J147_s0_0 H locs ls  hH hS (lv_sub hl [] rfl)
              · skip
                have rlc56 : x55.toInt = (6 : Int) := congrArg Int32.toInt c56
                have ir57 : IV x55 6 6 := iv_eL c56 (iv_c (by decide) : IV 6 6 6)
                have ir57a := ir57.1; have ir57b := ir57.2
                refine lv_iconst (v := 1) hx hb dX11_isFull_142 (by decide) ?_
                refine lv_goto (tgt := 147) hx hb dX11_isFull_143 (by decide) ?_
                exact J147_s0_1 H locs ls  hH hS (lv_sub hl [] rfl)
          · skip
            have rlc11 : x10.toInt ≠ (0 : Int) := iv_ne c11
            have ir58 : IV x10 1 1 := iv_cutL ix10 (iv_c (by decide) : IV 0 0 0) c11 (by decide)
            have ir58a := ir58.1; have ir58b := ir58.2
            refine lv_aload_n hx hb dX11_isFull_98 rfl (lv_at hl 0 rfl) ?_
            refine th_get S hK hH inG11 t0 km_0 rfl 14 (by decide) gm_1244 rfl rfl dX11_isFull_99 (fun v59 hv59 fv59 => ?_)
            obtain ⟨rf60, rfl, trf60⟩ := th_V.ref hv59
            refine lv_aload_n hx hb dX11_isFull_102 rfl (lv_at hl 0 rfl) ?_
            refine th_get S hK hH inG11 t0 km_0 rfl 42 (by decide) gm_1272 rfl rfl dX11_isFull_103 (fun v61 hv61 fv61 => ?_)
            obtain ⟨x62, rfl, ix62⟩ := th_V.int hv61
            have kx62a : q 13 ≤ x62.toInt := ix62.1
            have kx62b : x62.toInt ≤ q 13 := ix62.2
            have ix62 : IV x62 0 1 := iv_w ix62 (qkm_13 hq)
            refine th_iald S hK hH trf60 km_6 (th_in (hi := 1) ix62 (by decide)) dX11_isFull_106 (fun v63 hv63 => ?_)
            obtain ⟨x64, rfl, ix64⟩ := th_V.int hv63
            refine lv_bipush (v := 12) hx hb dX11_isFull_107 (by decide) ?_
            refine lv_icmp_ne (tgt := 116) hx hb dX11_isFull_109 (by decide) (fun c65 => ?_) (fun c65 => ?_)
            · skip
              have rlc65 : x64.toInt ≠ (12 : Int) := iv_ne c65
              refine lv_iconst (v := 0) hx hb dX11_isFull_116 (by decide) ?_
              exact J117_s0_0 H locs ls  hH hS (lv_sub hl [] rfl)
            · skip
              have rlc65 : x64.toInt = (12 : Int) := congrArg Int32.toInt c65
              have ir66 : IV x64 12 12 := iv_eL c65 (iv_c (by decide) : IV 12 12 12)
              have ir66a := ir66.1; have ir66b := ir66.2
              refine lv_iconst (v := 1) hx hb dX11_isFull_112 (by decide) ?_
              refine lv_goto (tgt := 117) hx hb dX11_isFull_113 (by decide) ?_
              exact J117_s0_1 H locs ls  hH hS (lv_sub hl [] rfl)
        · skip
          have rlc8 : x7.toInt ≠ (0 : Int) := iv_ne c8
          have ir67 : IV x7 1 1 := iv_cutL ix7 (iv_c (by decide) : IV 0 0 0) c8 (by decide)
          have ir67a := ir67.1; have ir67b := ir67.2
          refine lv_aload_n hx hb dX11_isFull_68 rfl (lv_at hl 0 rfl) ?_
          refine th_get S hK hH inG11 t0 km_0 rfl 13 (by decide) gm_1243 rfl rfl dX11_isFull_69 (fun v68 hv68 fv68 => ?_)
          obtain ⟨rf69, rfl, trf69⟩ := th_V.ref hv68
          refine lv_aload_n hx hb dX11_isFull_72 rfl (lv_at hl 0 rfl) ?_
          refine th_get S hK hH inG11 t0 km_0 rfl 42 (by decide) gm_1272 rfl rfl dX11_isFull_73 (fun v70 hv70 fv70 => ?_)
          obtain ⟨x71, rfl, ix71⟩ := th_V.int hv70
          have kx71a : q 13 ≤ x71.toInt := ix71.1
          have kx71b : x71.toInt ≤ q 13 := ix71.2
          have ix71 : IV x71 0 1 := iv_w ix71 (qkm_13 hq)
          refine th_iald S hK hH trf69 km_5 (th_in (hi := 1) ix71 (by decide)) dX11_isFull_76 (fun v72 hv72 => ?_)
          obtain ⟨x73, rfl, ix73⟩ := th_bkU (lo := 0) (hi := 8) hv72 (qkm_18 hq) (qkm_19 hq)
          refine lv_bipush (v := 8) hx hb dX11_isFull_77 (by decide) ?_
          refine lv_icmp_ne (tgt := 86) hx hb dX11_isFull_79 (by decide) (fun c74 => ?_) (fun c74 => ?_)
          · skip
            have rlc74 : x73.toInt ≠ (8 : Int) := iv_ne c74
            have ir75 : IV x73 0 7 := iv_cutH ix73 (iv_c (by decide) : IV 8 8 8) c74 (by decide)
            have ir75a := ir75.1; have ir75b := ir75.2
            refine lv_iconst (v := 0) hx hb dX11_isFull_86 (by decide) ?_
            exact J87_s0_0 H locs ls  hH hS (lv_sub hl [] rfl)
          · skip
            have rlc74 : x73.toInt = (8 : Int) := congrArg Int32.toInt c74
            have ir76 : IV x73 8 8 := ⟨(iv_eL c74 (iv_c (by decide) : IV 8 8 8)).1, ix73.2⟩
            have ir76a := ir76.1; have ir76b := ir76.2
            refine lv_iconst (v := 1) hx hb dX11_isFull_82 (by decide) ?_
            refine lv_goto (tgt := 87) hx hb dX11_isFull_83 (by decide) ?_
            exact J87_s0_1 H locs ls  hH hS (lv_sub hl [] rfl)
      · skip
        have rlc5 : x4.toInt ≠ (0 : Int) := iv_ne c5
        have ir77 : IV x4 1 1 := iv_cutL ix4 (iv_c (by decide) : IV 0 0 0) c5 (by decide)
        have ir77a := ir77.1; have ir77b := ir77.2
        refine lv_aload_n hx hb dX11_isFull_39 rfl (lv_at hl 0 rfl) ?_
        refine th_get S hK hH inG11 t0 km_0 rfl 12 (by decide) gm_1242 rfl rfl dX11_isFull_40 (fun v78 hv78 fv78 => ?_)
        obtain ⟨rf79, rfl, trf79⟩ := th_V.ref hv78
        refine lv_aload_n hx hb dX11_isFull_43 rfl (lv_at hl 0 rfl) ?_
        refine th_get S hK hH inG11 t0 km_0 rfl 42 (by decide) gm_1272 rfl rfl dX11_isFull_44 (fun v80 hv80 fv80 => ?_)
        obtain ⟨x81, rfl, ix81⟩ := th_V.int hv80
        have kx81a : q 13 ≤ x81.toInt := ix81.1
        have kx81b : x81.toInt ≤ q 13 := ix81.2
        have ix81 : IV x81 0 1 := iv_w ix81 (qkm_13 hq)
        refine th_iald S hK hH trf79 km_4 (th_in (hi := 1) ix81 (by decide)) dX11_isFull_47 (fun v82 hv82 => ?_)
        obtain ⟨x83, rfl, ix83⟩ := th_bkU (lo := 0) (hi := 4) hv82 (qkm_11 hq) (qkm_14 hq)
        refine lv_iconst (v := 4) hx hb dX11_isFull_48 (by decide) ?_
        refine lv_icmp_ne (tgt := 56) hx hb dX11_isFull_49 (by decide) (fun c84 => ?_) (fun c84 => ?_)
        · skip
          have rlc84 : x83.toInt ≠ (4 : Int) := iv_ne c84
          have ir85 : IV x83 0 3 := iv_cutH ix83 (iv_c (by decide) : IV 4 4 4) c84 (by decide)
          have ir85a := ir85.1; have ir85b := ir85.2
          refine lv_iconst (v := 0) hx hb dX11_isFull_56 (by decide) ?_
          exact J57_s0_0 H locs ls  hH hS (lv_sub hl [] rfl)
        · skip
          have rlc84 : x83.toInt = (4 : Int) := congrArg Int32.toInt c84
          have ir86 : IV x83 4 4 := ⟨(iv_eL c84 (iv_c (by decide) : IV 4 4 4)).1, ix83.2⟩
          have ir86a := ir86.1; have ir86b := ir86.2
          refine lv_iconst (v := 1) hx hb dX11_isFull_52 (by decide) ?_
          refine lv_goto (tgt := 57) hx hb dX11_isFull_53 (by decide) ?_
          exact J57_s0_1 H locs ls  hH hS (lv_sub hl [] rfl)
    · skip
      have rlc2 : x1.toInt ≠ (0 : Int) := iv_ne c2
      have ir87 : IV x1 1 1 := iv_cutL ix1 (iv_c (by decide) : IV 0 0 0) c2 (by decide)
      have ir87a := ir87.1; have ir87b := ir87.2
      refine lv_aload_n hx hb dX11_isFull_10 rfl (lv_at hl 0 rfl) ?_
      refine th_get S hK hH inG11 t0 km_0 rfl 11 (by decide) gm_1241 rfl rfl dX11_isFull_11 (fun v88 hv88 fv88 => ?_)
      obtain ⟨rf89, rfl, trf89⟩ := th_V.ref hv88
      refine lv_aload_n hx hb dX11_isFull_14 rfl (lv_at hl 0 rfl) ?_
      refine th_get S hK hH inG11 t0 km_0 rfl 42 (by decide) gm_1272 rfl rfl dX11_isFull_15 (fun v90 hv90 fv90 => ?_)
      obtain ⟨x91, rfl, ix91⟩ := th_V.int hv90
      have kx91a : q 13 ≤ x91.toInt := ix91.1
      have kx91b : x91.toInt ≤ q 13 := ix91.2
      have ix91 : IV x91 0 1 := iv_w ix91 (qkm_13 hq)
      refine th_iald S hK hH trf89 km_3 (th_in (hi := 1) ix91 (by decide)) dX11_isFull_18 (fun v92 hv92 => ?_)
      obtain ⟨x93, rfl, ix93⟩ := th_bkU (lo := 0) (hi := 3) hv92 (qkm_16 hq) (qkm_17 hq)
      refine lv_iconst (v := 3) hx hb dX11_isFull_19 (by decide) ?_
      refine lv_icmp_ne (tgt := 27) hx hb dX11_isFull_20 (by decide) (fun c94 => ?_) (fun c94 => ?_)
      · skip
        have rlc94 : x93.toInt ≠ (3 : Int) := iv_ne c94
        have ir95 : IV x93 0 2 := iv_cutH ix93 (iv_c (by decide) : IV 3 3 3) c94 (by decide)
        have ir95a := ir95.1; have ir95b := ir95.2
        refine lv_iconst (v := 0) hx hb dX11_isFull_27 (by decide) ?_
        exact J28_s0_0 H locs ls  hH hS (lv_sub hl [] rfl)
      · skip
        have rlc94 : x93.toInt = (3 : Int) := congrArg Int32.toInt c94
        have ir96 : IV x93 3 3 := ⟨(iv_eL c94 (iv_c (by decide) : IV 3 3 3)).1, ix93.2⟩
        have ir96a := ir96.1; have ir96b := ir96.2
        refine lv_iconst (v := 1) hx hb dX11_isFull_23 (by decide) ?_
        refine lv_goto (tgt := 28) hx hb dX11_isFull_24 (by decide) ?_
        exact J28_s0_1 H locs ls  hH hS (lv_sub hl [] rfl)
  exact J0 s.heap [] ls hH va_S.rf hl

set_option maxHeartbeats 20000000 in
set_option maxRecDepth 100000 in
theorem m_X11_here_v0 (l : Launch) (D : va_G) (cT : Nat → ClassId) (T : Nat → Option Nat) (q : Nat → Int) (hT : tokm T) (hq : qkm q) (a0 : Nat) (t0 : T a0 = some 0) (a1 : Nat) (t1 : T a1 = some 25) (y2 : Int32) (j2 : IV y2 0 3) (y3 : Int32) (j3 : IV y3 0 3) : th_Met l D cT T (km q) yX11_here cX11_here 5 (some .int) (rmk 0 0) [.ref a0, .ref a1, .int y2, .int y3] (th_R T (some (.inl (-1, 2)))) [] := by
  refine th_start (by decide) (Nat.le_of_ble_eq_true rfl) ?_
  intro p e s m below meth c ls S hK hH hr hlocks hnm hl
  have hx := S.1
  have hb := S.2.1
  have l1y2 := j2.1; have l2y2 := j2.2
  have l1y3 := j3.1; have l2y3 := j3.2
  have hl : lv_has ls 5 [(0, .ref a0), (1, .ref a1), (2, .int y2), (3, .int y3)] := hl
  have J3 : ∀ (n : Nat) (H : Heap) (locs : List Loc) (ls : Array Slot) (v3_4 : Int32), IV v3_4 0 3 → th_H D cT T (km q) H → va_S (th_A T []) s.heap H locs → lv_has ls 5 [(0, .ref a0), (1, .ref a1), (2, .int y2), (3, .int y3), (4, .int v3_4)] → (3 + 1 - Int32.toInt v3_4).toNat < n → W p l e (rmk 0 0) s m [.ref a0, .ref a1, .int y2, .int y3].toArray below meth c H locs 0 0 (MQ below (th_Q D cT T (km q) (th_R T (some (.inl (-1, 2)))) []) [.ref a0, .ref a1, .int y2, .int y3].toArray s 0 0 (th_A T [])) (F0 m 3 ls []) := by
    intro n
    induction n with
    | zero => intro H locs ls v3_4 iv3_4 hH hS hl hn; exact absurd hn (Nat.not_lt_zero _)
    | succ n ih3 =>
      intro H locs ls v3_4 iv3_4 hH hS hl hn3
      have J34 : ∀ (H : Heap) (locs : List Loc) (ls : Array Slot), IV v3_4 0 2 → IV y3 1 3 → th_H D cT T (km q) H → va_S (th_A T []) s.heap H locs → lv_has ls 5 [(0, .ref a0), (1, .ref a1), (2, .int y2), (3, .int y3), (4, .int v3_4)] → W p l e (rmk 0 0) s m [.ref a0, .ref a1, .int y2, .int y3].toArray below meth c H locs 0 0 (MQ below (th_Q D cT T (km q) (th_R T (some (.inl (-1, 2)))) []) [.ref a0, .ref a1, .int y2, .int y3].toArray s 0 0 (th_A T [])) (F0 m 34 ls []) := by
        intro H locs ls f34_v3_4 f34_y3 hH hS hl
        refine th_iinc S dX11_here_34 hl (k := 4) rfl (by decide) f34_v3_4 (by decide) (fun x1 ls ex1 ix1 hl => ?_)
        have hl : lv_has ls 5 [(4, .int x1), (0, .ref a0), (1, .ref a1), (2, .int y2), (3, .int y3)] := hl
        have ix1 : IV x1 1 3 := ix1
        refine lv_goto (tgt := 3) hx hb dX11_here_37 (by decide) ?_
        exact ih3 H locs ls x1 (iv_w ix1 (by decide)) hH hS (lv_sub hl [1, 2, 3, 4, 0] rfl) (th_up iv3_4 ex1 (by decide) hn3)
      have l1v3_4 := iv3_4.1; have l2v3_4 := iv3_4.2
      refine lv_iload hx hb dX11_here_3 (lv_at hl 4 rfl) ?_
      refine lv_iload_n hx hb dX11_here_5 rfl (lv_at hl 3 rfl) ?_
      refine lv_icmp_ge (tgt := 40) hx hb dX11_here_6 (by decide) (fun c2 => ?_) (fun c2 => ?_)
      · skip
        have rlc2 : y3.toInt ≤ v3_4.toInt := iv_le c2
        refine lv_iconst (v := (-1)) hx hb dX11_here_40 (by decide) ?_
        exact th_iret S hK hH hS hr hlocks (th_R.i (iv_w (iv_c (by decide) : IV (-1) (-1) (-1)) (by decide))) dX11_here_41
      · skip
        have rlc2 : v3_4.toInt < y3.toInt := iv_nle c2
        have ir3 : IV v3_4 0 2 := iv_uL iv3_4 j3 (iv_nle c2) (by decide)
        have ir3a := ir3.1; have ir3b := ir3.2
        have ir4 : IV y3 1 3 := iv_uR iv3_4 j3 (iv_nle c2) (by decide)
        have ir4a := ir4.1; have ir4b := ir4.2
        refine lv_aload_n hx hb dX11_here_9 rfl (lv_at hl 0 rfl) ?_
        refine th_get S hK hH inG11 t0 km_0 rfl 8 (by decide) gm_1238 rfl rfl dX11_here_10 (fun v5 hv5 fv5 => ?_)
        obtain ⟨x6, rfl, ix6⟩ := th_V.int hv5
        have kx6a : q 29 ≤ x6.toInt := ix6.1
        have kx6b : x6.toInt ≤ q 29 := ix6.2
        have ix6 : IV x6 0 5 := iv_w ix6 (qkm_29 hq)
        refine lv_iconst (v := 2) hx hb dX11_here_13 (by decide) ?_
        refine lv_icmp_ne (tgt := 34) hx hb dX11_here_14 (by decide) (fun c7 => ?_) (fun c7 => ?_)
        · skip
          have rlc7 : x6.toInt ≠ (2 : Int) := iv_ne c7
          exact J34 H locs ls ir3 ir4 hH hS (lv_sub hl [0, 1, 2, 3, 4] rfl)
        · skip
          have rlc7 : x6.toInt = (2 : Int) := congrArg Int32.toInt c7
          have ir8 : IV x6 2 2 := iv_eL c7 (iv_c (by decide) : IV 2 2 2)
          have ir8a := ir8.1; have ir8b := ir8.2
          refine lv_aload_n hx hb dX11_here_17 rfl (lv_at hl 1 rfl) ?_
          refine lv_iload_n hx hb dX11_here_18 rfl (lv_at hl 2 rfl) ?_
          refine lv_iload hx hb dX11_here_19 (lv_at hl 4 rfl) ?_
          refine lv_iadd hx hb dX11_here_21 ?_
          refine lv_topi (fun x9 ex9 => ?_)
          have ix9 : IV x9 0 5 := by rw [ex9]; exact iv_add j2 ir3 (by decide)
          have ux9 : x9.toInt = y2.toInt + v3_4.toInt := by rw [ex9]; exact iv_addE (by have z1 := (j2).1; have z2 := (j2).2; have z3 := (ir3).1; have z4 := (ir3).2; omega)
          refine th_lald S hK hH t1 km_25 (th_in (hi := 5) ix9 (by decide)) dX11_here_22 (fun v10 hv10 => ?_)
          obtain ⟨lg11, rfl⟩ := th_V.long hv10
          refine lv_aload_n hx hb dX11_here_23 rfl (lv_at hl 0 rfl) ?_
          refine th_getM S hK hH inG11 t0 km_0 rfl 10 (by decide) gm_1240 rfl rfl dX11_here_24 (fun v12 hv12 wv12 => ?_)
          obtain ⟨lg13, rfl⟩ := th_V.long hv12
          have klg13 : lg13.toInt = q 31 := by obtain ⟨vs, z1, z2⟩ := wv12; exact z2 _ z1
          refine W.lcmp hx hb dX11_here_27 ?_
          refine lv_topi (fun x14 ex14 => ?_)
          have ix14 := iv_top x14
          have ax14 : x14.toInt = 0 → lg11.toInt = lg13.toInt := lc_eq ex14
          have bx14 : x14.toInt ≠ 0 → lg11.toInt ≠ lg13.toInt := lc_ne ex14
          refine lv_if_ne (tgt := 34) hx hb dX11_here_28 (by decide) (fun c15 => ?_) (fun c15 => ?_)
          · skip
            have rlc15 : x14.toInt ≠ (0 : Int) := iv_ne c15
            exact J34 H locs ls ir3 ir4 hH hS (lv_sub hl [0, 1, 2, 3, 4] rfl)
          · skip
            have rlc15 : x14.toInt = (0 : Int) := congrArg Int32.toInt c15
            have ir16 : IV x14 0 0 := iv_eL c15 (iv_c (by decide) : IV 0 0 0)
            have ir16a := ir16.1; have ir16b := ir16.2
            refine lv_iload hx hb dX11_here_31 (lv_at hl 4 rfl) ?_
            exact th_iret S hK hH hS hr hlocks (th_R.i (iv_w ir3 (by decide))) dX11_here_33
  have J0 : ∀ (H : Heap) (locs : List Loc) (ls : Array Slot), th_H D cT T (km q) H → va_S (th_A T []) s.heap H locs → lv_has ls 5 [(0, .ref a0), (1, .ref a1), (2, .int y2), (3, .int y3)] → W p l e (rmk 0 0) s m [.ref a0, .ref a1, .int y2, .int y3].toArray below meth c H locs 0 0 (MQ below (th_Q D cT T (km q) (th_R T (some (.inl (-1, 2)))) []) [.ref a0, .ref a1, .int y2, .int y3].toArray s 0 0 (th_A T [])) (F0 m 0 ls []) := by
    intro H locs ls hH hS hl
    refine lv_iconst (v := 0) hx hb dX11_here_0 (by decide) ?_
    refine lv_istore (lv' := [(4, .int 0), (0, .ref a0), (1, .ref a1), (2, .int y2), (3, .int y3)]) hx hb dX11_here_1 hl (by decide) rfl (fun ls hl => ?_)
    exact J3 ((3 + 1 - Int32.toInt 0).toNat + 1) H locs ls 0 (iv_w (iv_c (by decide) : IV 0 0 0) (by decide)) hH hS (lv_sub hl [1, 2, 3, 4, 0] rfl) (Nat.lt_succ_self _)
  exact J0 s.heap [] ls hH va_S.rf hl

set_option maxHeartbeats 20000000 in
set_option maxRecDepth 100000 in
theorem m_X11_here_v1 (l : Launch) (D : va_G) (cT : Nat → ClassId) (T : Nat → Option Nat) (q : Nat → Int) (hT : tokm T) (hq : qkm q) (a0 : Nat) (t0 : T a0 = some 0) (a1 : Nat) (t1 : T a1 = some 26) (y2 : Int32) (j2 : IV y2 0 4) (y3 : Int32) (j3 : IV y3 0 4) : th_Met l D cT T (km q) yX11_here cX11_here 5 (some .int) (rmk 0 0) [.ref a0, .ref a1, .int y2, .int y3] (th_R T (some (.inl (-1, 3)))) [] := by
  refine th_start (by decide) (Nat.le_of_ble_eq_true rfl) ?_
  intro p e s m below meth c ls S hK hH hr hlocks hnm hl
  have hx := S.1
  have hb := S.2.1
  have l1y2 := j2.1; have l2y2 := j2.2
  have l1y3 := j3.1; have l2y3 := j3.2
  have hl : lv_has ls 5 [(0, .ref a0), (1, .ref a1), (2, .int y2), (3, .int y3)] := hl
  have J3 : ∀ (n : Nat) (H : Heap) (locs : List Loc) (ls : Array Slot) (v3_4 : Int32), IV v3_4 0 4 → th_H D cT T (km q) H → va_S (th_A T []) s.heap H locs → lv_has ls 5 [(0, .ref a0), (1, .ref a1), (2, .int y2), (3, .int y3), (4, .int v3_4)] → (4 + 1 - Int32.toInt v3_4).toNat < n → W p l e (rmk 0 0) s m [.ref a0, .ref a1, .int y2, .int y3].toArray below meth c H locs 0 0 (MQ below (th_Q D cT T (km q) (th_R T (some (.inl (-1, 3)))) []) [.ref a0, .ref a1, .int y2, .int y3].toArray s 0 0 (th_A T [])) (F0 m 3 ls []) := by
    intro n
    induction n with
    | zero => intro H locs ls v3_4 iv3_4 hH hS hl hn; exact absurd hn (Nat.not_lt_zero _)
    | succ n ih3 =>
      intro H locs ls v3_4 iv3_4 hH hS hl hn3
      have J34 : ∀ (H : Heap) (locs : List Loc) (ls : Array Slot), IV v3_4 0 3 → IV y3 1 4 → th_H D cT T (km q) H → va_S (th_A T []) s.heap H locs → lv_has ls 5 [(0, .ref a0), (1, .ref a1), (2, .int y2), (3, .int y3), (4, .int v3_4)] → W p l e (rmk 0 0) s m [.ref a0, .ref a1, .int y2, .int y3].toArray below meth c H locs 0 0 (MQ below (th_Q D cT T (km q) (th_R T (some (.inl (-1, 3)))) []) [.ref a0, .ref a1, .int y2, .int y3].toArray s 0 0 (th_A T [])) (F0 m 34 ls []) := by
        intro H locs ls f34_v3_4 f34_y3 hH hS hl
        refine th_iinc S dX11_here_34 hl (k := 4) rfl (by decide) f34_v3_4 (by decide) (fun x1 ls ex1 ix1 hl => ?_)
        have hl : lv_has ls 5 [(4, .int x1), (0, .ref a0), (1, .ref a1), (2, .int y2), (3, .int y3)] := hl
        have ix1 : IV x1 1 4 := ix1
        refine lv_goto (tgt := 3) hx hb dX11_here_37 (by decide) ?_
        exact ih3 H locs ls x1 (iv_w ix1 (by decide)) hH hS (lv_sub hl [1, 2, 3, 4, 0] rfl) (th_up iv3_4 ex1 (by decide) hn3)
      have l1v3_4 := iv3_4.1; have l2v3_4 := iv3_4.2
      refine lv_iload hx hb dX11_here_3 (lv_at hl 4 rfl) ?_
      refine lv_iload_n hx hb dX11_here_5 rfl (lv_at hl 3 rfl) ?_
      refine lv_icmp_ge (tgt := 40) hx hb dX11_here_6 (by decide) (fun c2 => ?_) (fun c2 => ?_)
      · skip
        have rlc2 : y3.toInt ≤ v3_4.toInt := iv_le c2
        refine lv_iconst (v := (-1)) hx hb dX11_here_40 (by decide) ?_
        exact th_iret S hK hH hS hr hlocks (th_R.i (iv_w (iv_c (by decide) : IV (-1) (-1) (-1)) (by decide))) dX11_here_41
      · skip
        have rlc2 : v3_4.toInt < y3.toInt := iv_nle c2
        have ir3 : IV v3_4 0 3 := iv_uL iv3_4 j3 (iv_nle c2) (by decide)
        have ir3a := ir3.1; have ir3b := ir3.2
        have ir4 : IV y3 1 4 := iv_uR iv3_4 j3 (iv_nle c2) (by decide)
        have ir4a := ir4.1; have ir4b := ir4.2
        refine lv_aload_n hx hb dX11_here_9 rfl (lv_at hl 0 rfl) ?_
        refine th_get S hK hH inG11 t0 km_0 rfl 8 (by decide) gm_1238 rfl rfl dX11_here_10 (fun v5 hv5 fv5 => ?_)
        obtain ⟨x6, rfl, ix6⟩ := th_V.int hv5
        have kx6a : q 29 ≤ x6.toInt := ix6.1
        have kx6b : x6.toInt ≤ q 29 := ix6.2
        have ix6 : IV x6 0 5 := iv_w ix6 (qkm_29 hq)
        refine lv_iconst (v := 2) hx hb dX11_here_13 (by decide) ?_
        refine lv_icmp_ne (tgt := 34) hx hb dX11_here_14 (by decide) (fun c7 => ?_) (fun c7 => ?_)
        · skip
          have rlc7 : x6.toInt ≠ (2 : Int) := iv_ne c7
          exact J34 H locs ls ir3 ir4 hH hS (lv_sub hl [0, 1, 2, 3, 4] rfl)
        · skip
          have rlc7 : x6.toInt = (2 : Int) := congrArg Int32.toInt c7
          have ir8 : IV x6 2 2 := iv_eL c7 (iv_c (by decide) : IV 2 2 2)
          have ir8a := ir8.1; have ir8b := ir8.2
          refine lv_aload_n hx hb dX11_here_17 rfl (lv_at hl 1 rfl) ?_
          refine lv_iload_n hx hb dX11_here_18 rfl (lv_at hl 2 rfl) ?_
          refine lv_iload hx hb dX11_here_19 (lv_at hl 4 rfl) ?_
          refine lv_iadd hx hb dX11_here_21 ?_
          refine lv_topi (fun x9 ex9 => ?_)
          have ix9 : IV x9 0 7 := by rw [ex9]; exact iv_add j2 ir3 (by decide)
          have ux9 : x9.toInt = y2.toInt + v3_4.toInt := by rw [ex9]; exact iv_addE (by have z1 := (j2).1; have z2 := (j2).2; have z3 := (ir3).1; have z4 := (ir3).2; omega)
          refine th_lald S hK hH t1 km_26 (th_in (hi := 7) ix9 (by decide)) dX11_here_22 (fun v10 hv10 => ?_)
          obtain ⟨lg11, rfl⟩ := th_V.long hv10
          refine lv_aload_n hx hb dX11_here_23 rfl (lv_at hl 0 rfl) ?_
          refine th_getM S hK hH inG11 t0 km_0 rfl 10 (by decide) gm_1240 rfl rfl dX11_here_24 (fun v12 hv12 wv12 => ?_)
          obtain ⟨lg13, rfl⟩ := th_V.long hv12
          have klg13 : lg13.toInt = q 31 := by obtain ⟨vs, z1, z2⟩ := wv12; exact z2 _ z1
          refine W.lcmp hx hb dX11_here_27 ?_
          refine lv_topi (fun x14 ex14 => ?_)
          have ix14 := iv_top x14
          have ax14 : x14.toInt = 0 → lg11.toInt = lg13.toInt := lc_eq ex14
          have bx14 : x14.toInt ≠ 0 → lg11.toInt ≠ lg13.toInt := lc_ne ex14
          refine lv_if_ne (tgt := 34) hx hb dX11_here_28 (by decide) (fun c15 => ?_) (fun c15 => ?_)
          · skip
            have rlc15 : x14.toInt ≠ (0 : Int) := iv_ne c15
            exact J34 H locs ls ir3 ir4 hH hS (lv_sub hl [0, 1, 2, 3, 4] rfl)
          · skip
            have rlc15 : x14.toInt = (0 : Int) := congrArg Int32.toInt c15
            have ir16 : IV x14 0 0 := iv_eL c15 (iv_c (by decide) : IV 0 0 0)
            have ir16a := ir16.1; have ir16b := ir16.2
            refine lv_iload hx hb dX11_here_31 (lv_at hl 4 rfl) ?_
            exact th_iret S hK hH hS hr hlocks (th_R.i (iv_w ir3 (by decide))) dX11_here_33
  have J0 : ∀ (H : Heap) (locs : List Loc) (ls : Array Slot), th_H D cT T (km q) H → va_S (th_A T []) s.heap H locs → lv_has ls 5 [(0, .ref a0), (1, .ref a1), (2, .int y2), (3, .int y3)] → W p l e (rmk 0 0) s m [.ref a0, .ref a1, .int y2, .int y3].toArray below meth c H locs 0 0 (MQ below (th_Q D cT T (km q) (th_R T (some (.inl (-1, 3)))) []) [.ref a0, .ref a1, .int y2, .int y3].toArray s 0 0 (th_A T [])) (F0 m 0 ls []) := by
    intro H locs ls hH hS hl
    refine lv_iconst (v := 0) hx hb dX11_here_0 (by decide) ?_
    refine lv_istore (lv' := [(4, .int 0), (0, .ref a0), (1, .ref a1), (2, .int y2), (3, .int y3)]) hx hb dX11_here_1 hl (by decide) rfl (fun ls hl => ?_)
    exact J3 ((4 + 1 - Int32.toInt 0).toNat + 1) H locs ls 0 (iv_w (iv_c (by decide) : IV 0 0 0) (by decide)) hH hS (lv_sub hl [1, 2, 3, 4, 0] rfl) (Nat.lt_succ_self _)
  exact J0 s.heap [] ls hH va_S.rf hl

set_option maxHeartbeats 20000000 in
set_option maxRecDepth 100000 in
theorem m_X11_here_v2 (l : Launch) (D : va_G) (cT : Nat → ClassId) (T : Nat → Option Nat) (q : Nat → Int) (hT : tokm T) (hq : qkm q) (a0 : Nat) (t0 : T a0 = some 0) (a1 : Nat) (t1 : T a1 = some 27) (y2 : Int32) (j2 : IV y2 0 8) (y3 : Int32) (j3 : IV y3 0 8) : th_Met l D cT T (km q) yX11_here cX11_here 5 (some .int) (rmk 0 0) [.ref a0, .ref a1, .int y2, .int y3] (th_R T (some (.inl (-1, 7)))) [] := by
  refine th_start (by decide) (Nat.le_of_ble_eq_true rfl) ?_
  intro p e s m below meth c ls S hK hH hr hlocks hnm hl
  have hx := S.1
  have hb := S.2.1
  have l1y2 := j2.1; have l2y2 := j2.2
  have l1y3 := j3.1; have l2y3 := j3.2
  have hl : lv_has ls 5 [(0, .ref a0), (1, .ref a1), (2, .int y2), (3, .int y3)] := hl
  have J3 : ∀ (n : Nat) (H : Heap) (locs : List Loc) (ls : Array Slot) (v3_4 : Int32), IV v3_4 0 8 → th_H D cT T (km q) H → va_S (th_A T []) s.heap H locs → lv_has ls 5 [(0, .ref a0), (1, .ref a1), (2, .int y2), (3, .int y3), (4, .int v3_4)] → (8 + 1 - Int32.toInt v3_4).toNat < n → W p l e (rmk 0 0) s m [.ref a0, .ref a1, .int y2, .int y3].toArray below meth c H locs 0 0 (MQ below (th_Q D cT T (km q) (th_R T (some (.inl (-1, 7)))) []) [.ref a0, .ref a1, .int y2, .int y3].toArray s 0 0 (th_A T [])) (F0 m 3 ls []) := by
    intro n
    induction n with
    | zero => intro H locs ls v3_4 iv3_4 hH hS hl hn; exact absurd hn (Nat.not_lt_zero _)
    | succ n ih3 =>
      intro H locs ls v3_4 iv3_4 hH hS hl hn3
      have J34 : ∀ (H : Heap) (locs : List Loc) (ls : Array Slot), IV v3_4 0 7 → IV y3 1 8 → th_H D cT T (km q) H → va_S (th_A T []) s.heap H locs → lv_has ls 5 [(0, .ref a0), (1, .ref a1), (2, .int y2), (3, .int y3), (4, .int v3_4)] → W p l e (rmk 0 0) s m [.ref a0, .ref a1, .int y2, .int y3].toArray below meth c H locs 0 0 (MQ below (th_Q D cT T (km q) (th_R T (some (.inl (-1, 7)))) []) [.ref a0, .ref a1, .int y2, .int y3].toArray s 0 0 (th_A T [])) (F0 m 34 ls []) := by
        intro H locs ls f34_v3_4 f34_y3 hH hS hl
        refine th_iinc S dX11_here_34 hl (k := 4) rfl (by decide) f34_v3_4 (by decide) (fun x1 ls ex1 ix1 hl => ?_)
        have hl : lv_has ls 5 [(4, .int x1), (0, .ref a0), (1, .ref a1), (2, .int y2), (3, .int y3)] := hl
        have ix1 : IV x1 1 8 := ix1
        refine lv_goto (tgt := 3) hx hb dX11_here_37 (by decide) ?_
        exact ih3 H locs ls x1 (iv_w ix1 (by decide)) hH hS (lv_sub hl [1, 2, 3, 4, 0] rfl) (th_up iv3_4 ex1 (by decide) hn3)
      have l1v3_4 := iv3_4.1; have l2v3_4 := iv3_4.2
      refine lv_iload hx hb dX11_here_3 (lv_at hl 4 rfl) ?_
      refine lv_iload_n hx hb dX11_here_5 rfl (lv_at hl 3 rfl) ?_
      refine lv_icmp_ge (tgt := 40) hx hb dX11_here_6 (by decide) (fun c2 => ?_) (fun c2 => ?_)
      · skip
        have rlc2 : y3.toInt ≤ v3_4.toInt := iv_le c2
        refine lv_iconst (v := (-1)) hx hb dX11_here_40 (by decide) ?_
        exact th_iret S hK hH hS hr hlocks (th_R.i (iv_w (iv_c (by decide) : IV (-1) (-1) (-1)) (by decide))) dX11_here_41
      · skip
        have rlc2 : v3_4.toInt < y3.toInt := iv_nle c2
        have ir3 : IV v3_4 0 7 := iv_uL iv3_4 j3 (iv_nle c2) (by decide)
        have ir3a := ir3.1; have ir3b := ir3.2
        have ir4 : IV y3 1 8 := iv_uR iv3_4 j3 (iv_nle c2) (by decide)
        have ir4a := ir4.1; have ir4b := ir4.2
        refine lv_aload_n hx hb dX11_here_9 rfl (lv_at hl 0 rfl) ?_
        refine th_get S hK hH inG11 t0 km_0 rfl 8 (by decide) gm_1238 rfl rfl dX11_here_10 (fun v5 hv5 fv5 => ?_)
        obtain ⟨x6, rfl, ix6⟩ := th_V.int hv5
        have kx6a : q 29 ≤ x6.toInt := ix6.1
        have kx6b : x6.toInt ≤ q 29 := ix6.2
        have ix6 : IV x6 0 5 := iv_w ix6 (qkm_29 hq)
        refine lv_iconst (v := 2) hx hb dX11_here_13 (by decide) ?_
        refine lv_icmp_ne (tgt := 34) hx hb dX11_here_14 (by decide) (fun c7 => ?_) (fun c7 => ?_)
        · skip
          have rlc7 : x6.toInt ≠ (2 : Int) := iv_ne c7
          exact J34 H locs ls ir3 ir4 hH hS (lv_sub hl [0, 1, 2, 3, 4] rfl)
        · skip
          have rlc7 : x6.toInt = (2 : Int) := congrArg Int32.toInt c7
          have ir8 : IV x6 2 2 := iv_eL c7 (iv_c (by decide) : IV 2 2 2)
          have ir8a := ir8.1; have ir8b := ir8.2
          refine lv_aload_n hx hb dX11_here_17 rfl (lv_at hl 1 rfl) ?_
          refine lv_iload_n hx hb dX11_here_18 rfl (lv_at hl 2 rfl) ?_
          refine lv_iload hx hb dX11_here_19 (lv_at hl 4 rfl) ?_
          refine lv_iadd hx hb dX11_here_21 ?_
          refine lv_topi (fun x9 ex9 => ?_)
          have ix9 : IV x9 0 15 := by rw [ex9]; exact iv_add j2 ir3 (by decide)
          have ux9 : x9.toInt = y2.toInt + v3_4.toInt := by rw [ex9]; exact iv_addE (by have z1 := (j2).1; have z2 := (j2).2; have z3 := (ir3).1; have z4 := (ir3).2; omega)
          refine th_lald S hK hH t1 km_27 (th_in (hi := 15) ix9 (by decide)) dX11_here_22 (fun v10 hv10 => ?_)
          obtain ⟨lg11, rfl⟩ := th_V.long hv10
          refine lv_aload_n hx hb dX11_here_23 rfl (lv_at hl 0 rfl) ?_
          refine th_getM S hK hH inG11 t0 km_0 rfl 10 (by decide) gm_1240 rfl rfl dX11_here_24 (fun v12 hv12 wv12 => ?_)
          obtain ⟨lg13, rfl⟩ := th_V.long hv12
          have klg13 : lg13.toInt = q 31 := by obtain ⟨vs, z1, z2⟩ := wv12; exact z2 _ z1
          refine W.lcmp hx hb dX11_here_27 ?_
          refine lv_topi (fun x14 ex14 => ?_)
          have ix14 := iv_top x14
          have ax14 : x14.toInt = 0 → lg11.toInt = lg13.toInt := lc_eq ex14
          have bx14 : x14.toInt ≠ 0 → lg11.toInt ≠ lg13.toInt := lc_ne ex14
          refine lv_if_ne (tgt := 34) hx hb dX11_here_28 (by decide) (fun c15 => ?_) (fun c15 => ?_)
          · skip
            have rlc15 : x14.toInt ≠ (0 : Int) := iv_ne c15
            exact J34 H locs ls ir3 ir4 hH hS (lv_sub hl [0, 1, 2, 3, 4] rfl)
          · skip
            have rlc15 : x14.toInt = (0 : Int) := congrArg Int32.toInt c15
            have ir16 : IV x14 0 0 := iv_eL c15 (iv_c (by decide) : IV 0 0 0)
            have ir16a := ir16.1; have ir16b := ir16.2
            refine lv_iload hx hb dX11_here_31 (lv_at hl 4 rfl) ?_
            exact th_iret S hK hH hS hr hlocks (th_R.i (iv_w ir3 (by decide))) dX11_here_33
  have J0 : ∀ (H : Heap) (locs : List Loc) (ls : Array Slot), th_H D cT T (km q) H → va_S (th_A T []) s.heap H locs → lv_has ls 5 [(0, .ref a0), (1, .ref a1), (2, .int y2), (3, .int y3)] → W p l e (rmk 0 0) s m [.ref a0, .ref a1, .int y2, .int y3].toArray below meth c H locs 0 0 (MQ below (th_Q D cT T (km q) (th_R T (some (.inl (-1, 7)))) []) [.ref a0, .ref a1, .int y2, .int y3].toArray s 0 0 (th_A T [])) (F0 m 0 ls []) := by
    intro H locs ls hH hS hl
    refine lv_iconst (v := 0) hx hb dX11_here_0 (by decide) ?_
    refine lv_istore (lv' := [(4, .int 0), (0, .ref a0), (1, .ref a1), (2, .int y2), (3, .int y3)]) hx hb dX11_here_1 hl (by decide) rfl (fun ls hl => ?_)
    exact J3 ((8 + 1 - Int32.toInt 0).toNat + 1) H locs ls 0 (iv_w (iv_c (by decide) : IV 0 0 0) (by decide)) hH hS (lv_sub hl [1, 2, 3, 4, 0] rfl) (Nat.lt_succ_self _)
  exact J0 s.heap [] ls hH va_S.rf hl

set_option maxHeartbeats 20000000 in
set_option maxRecDepth 100000 in
theorem m_X11_foodHere (l : Launch) (D : va_G) (cT : Nat → ClassId) (T : Nat → Option Nat) (q : Nat → Int) (hT : tokm T) (hq : qkm q) (a0 : Nat) (t0 : T a0 = some 0) : th_Met l D cT T (km q) yX11_foodHere cX11_foodHere 1 (some .int) (rmk 1 24) [.ref a0] (th_R T (some (.inl (-1, 2)))) [] := by
  refine th_start (by decide) (Nat.le_of_ble_eq_true rfl) ?_
  intro p e s m below meth c ls S hK hH hr hlocks hnm hl
  have hx := S.1
  have hb := S.2.1
  have hl : lv_has ls 1 [(0, .ref a0)] := hl
  have J0 : ∀ (H : Heap) (locs : List Loc) (ls : Array Slot), th_H D cT T (km q) H → va_S (th_A T []) s.heap H locs → lv_has ls 1 [(0, .ref a0)] → W p l e (rmk 1 24) s m [.ref a0].toArray below meth c H locs 0 0 (MQ below (th_Q D cT T (km q) (th_R T (some (.inl (-1, 2)))) []) [.ref a0].toArray s 0 0 (th_A T [])) (F0 m 0 ls []) := by
    intro H locs ls hH hS hl
    refine lv_aload_n hx hb dX11_foodHere_0 rfl (lv_at hl 0 rfl) ?_
    refine lv_aload_n hx hb dX11_foodHere_1 rfl (lv_at hl 0 rfl) ?_
    refine th_get S hK hH inG11 t0 km_0 rfl 33 (by decide) gm_1263 rfl rfl dX11_foodHere_2 (fun v1 hv1 fv1 => ?_)
    obtain ⟨rf2, rfl, trf2⟩ := th_V.ref hv1
    refine lv_iconst (v := 3) hx hb dX11_foodHere_5 (by decide) ?_
    refine lv_aload_n hx hb dX11_foodHere_6 rfl (lv_at hl 0 rfl) ?_
    refine th_get S hK hH inG11 t0 km_0 rfl 42 (by decide) gm_1272 rfl rfl dX11_foodHere_7 (fun v3 hv3 fv3 => ?_)
    obtain ⟨x4, rfl, ix4⟩ := th_V.int hv3
    have kx4a : q 13 ≤ x4.toInt := ix4.1
    have kx4b : x4.toInt ≤ q 13 := ix4.2
    have ix4 : IV x4 0 1 := iv_w ix4 (qkm_13 hq)
    refine lv_imul hx hb dX11_foodHere_10 ?_
    refine lv_topi (fun x5 ex5 => ?_)
    have ix5 : IV x5 0 3 := by rw [ex5]; exact iv_mul (iv_c (by decide) : IV 3 3 3) ix4 (by decide) (by decide)
    have ux5 : x5.toInt = (3 : Int) * x4.toInt := by rw [ex5]; exact iv_mulE (iv_corner ((iv_c (by decide) : IV 3 3 3)).1 ((iv_c (by decide) : IV 3 3 3)).2 (ix4).1 (ix4).2 (by decide))
    refine lv_aload_n hx hb dX11_foodHere_11 rfl (lv_at hl 0 rfl) ?_
    refine th_get S hK hH inG11 t0 km_0 rfl 11 (by decide) gm_1241 rfl rfl dX11_foodHere_12 (fun v6 hv6 fv6 => ?_)
    obtain ⟨rf7, rfl, trf7⟩ := th_V.ref hv6
    refine lv_aload_n hx hb dX11_foodHere_15 rfl (lv_at hl 0 rfl) ?_
    refine th_get S hK hH inG11 t0 km_0 rfl 42 (by decide) gm_1272 rfl rfl dX11_foodHere_16 (fun v8 hv8 fv8 => ?_)
    obtain ⟨x9, rfl, ix9⟩ := th_V.int hv8
    have kx9a : q 13 ≤ x9.toInt := ix9.1
    have kx9b : x9.toInt ≤ q 13 := ix9.2
    have ix9 : IV x9 0 1 := iv_w ix9 (qkm_13 hq)
    refine th_iald S hK hH trf7 km_3 (th_in (hi := 1) ix9 (by decide)) dX11_foodHere_19 (fun v10 hv10 => ?_)
    obtain ⟨x11, rfl, ix11⟩ := th_bkU (lo := 0) (hi := 3) hv10 (qkm_16 hq) (qkm_17 hq)
    refine th_callVi (n := 3) (As := [.ref rf2, .int x5, .int x11]) S hK hH hS (th_A.sub (by decide)) (m_X11_here_v0 l D cT T q hT hq a0 t0 rf2 trf2 (x5) ix5 (x11) ix11) gm_1519 gm_1516 gm_1518 gm_57 gm_124 (by decide +kernel) ⟨rfl, rfl, Nat.le_of_ble_eq_true rfl, Nat.le_of_ble_eq_true rfl⟩ t0 km_0 rfl rfl hl.1 rfl (Nat.le_of_ble_eq_true rfl) dX11_foodHere_20 ⟨Nat.zero_le _, Nat.zero_le _⟩ (fun x12 H locs ix12 hH hS hF1 => ?_)
    exact th_iret S hK hH hS hr hlocks (th_R.i ix12) dX11_foodHere_23
  exact J0 s.heap [] ls hH va_S.rf hl

set_option maxHeartbeats 20000000 in
set_option maxRecDepth 100000 in
theorem m_X11_fresh (l : Launch) (D : va_G) (cT : Nat → ClassId) (T : Nat → Option Nat) (q : Nat → Int) (hT : tokm T) (hq : qkm q) (a0 : Nat) (t0 : T a0 = some 0) (y1 : Int32) (j1 : IV y1 (-2147483648) 2147483647) (hp0 : (q 29 = 0 ∧ q 27 = q 26 ∧ q 28 = q 26) ∨ (1 ≤ q 29 ∧ q 27 < q 28 ∧ q 28 ≤ q 26)) : th_MetM l D cT T q yX11_fresh cX11_fresh 4 (some .long) (rmk 2 44) [.ref a0, .int y1] (fun v q2 => (∃ r : Int64, v = some (.long r)) ∧ qkm q2 ∧ fr [27, 28, 29, 30, 31] q q2 ∧ ((q2 29 = 0 ∧ q2 27 = q2 26 ∧ q2 28 = q2 26) ∨ (1 ≤ q2 29 ∧ q2 27 < q2 28 ∧ q2 28 ≤ q2 26)) ∧ (q2 30 = 0 → q2 29 = 3 → sg q2 (q2 28) < 97 ∨ 122 < sg q2 (q2 28)) ∧ (q2 30 = 0 → q2 29 = 3 → q2 31 = 7237492 → q2 27 + 3 ≤ q2 28) ∧ (q 27 ≤ q2 27) ∧ (q2 30 = 0 → q 30 = 0 ∧ q 28 ≤ q2 27 ∧ q 29 ≠ 0)) [0] := by
  refine th_startM (by decide) (Nat.le_of_ble_eq_true rfl) ?_
  intro p e s m below meth c ls S hK hH hr hlocks hnm hl
  have hx := S.1
  have hb := S.2.1
  have hl : lv_has ls 4 [(0, .ref a0), (1, .int y1)] := hl
  have J53 : ∀ (q53 : Nat → Int) (H : Heap) (locs : List Loc) (ls : Array Slot) (v53_2 : Int64), qkm q53 → fr [27, 28, 29, 30, 31] q q53 → ((q53 29 = 0 ∧ q53 27 = q53 26 ∧ q53 28 = q53 26) ∨ (1 ≤ q53 29 ∧ q53 27 < q53 28 ∧ q53 28 ≤ q53 26)) → (q53 30 = 0 → q53 29 = 3 → sg q53 (q53 28) < 97 ∨ 122 < sg q53 (q53 28)) → (q53 30 = 0 → q53 29 = 3 → q53 31 = 7237492 → q53 27 + 3 ≤ q53 28) → (q 27 ≤ q53 27) → (q53 30 = 0 → q 30 = 0 ∧ q 28 ≤ q53 27 ∧ q 29 ≠ 0) → th_H D cT T (km q53) H → va_S (th_A T [0]) s.heap H locs → lv_has ls 4 [(2, .long v53_2)] → W p l e (rmk 2 44) s m [.ref a0, .int y1].toArray below meth c H locs 0 0 (MQ below (th_QM D cT T (fun v q2 => (∃ r : Int64, v = some (.long r)) ∧ qkm q2 ∧ fr [27, 28, 29, 30, 31] q q2 ∧ ((q2 29 = 0 ∧ q2 27 = q2 26 ∧ q2 28 = q2 26) ∨ (1 ≤ q2 29 ∧ q2 27 < q2 28 ∧ q2 28 ≤ q2 26)) ∧ (q2 30 = 0 → q2 29 = 3 → sg q2 (q2 28) < 97 ∨ 122 < sg q2 (q2 28)) ∧ (q2 30 = 0 → q2 29 = 3 → q2 31 = 7237492 → q2 27 + 3 ≤ q2 28) ∧ (q 27 ≤ q2 27) ∧ (q2 30 = 0 → q 30 = 0 ∧ q 28 ≤ q2 27 ∧ q 29 ≠ 0)) [0]) [.ref a0, .int y1].toArray s 0 0 (th_A T [0])) (F0 m 53 ls []) := by
    intro q53 H locs ls v53_2 hq53 h053 v53_inv0 v53_inv1 v53_inv2 v53_inv3 v53_inv4 hH hS hl
    have w53_26 : q53 26 = q 26 := h053 26 (by decide) (Or.inl (by decide))
    refine lv_lload_n hx hb dX11_fresh_53 rfl (lv_at hl 0 rfl) ?_
    exact th_lretM S hK hH hS hr hlocks ⟨⟨_, rfl⟩, hq53, h053, (show (q53 29 = 0 ∧ q53 27 = q53 26 ∧ q53 28 = q53 26) ∨ (1 ≤ q53 29 ∧ q53 27 < q53 28 ∧ q53 28 ≤ q53 26) by omega), (show q53 30 = 0 → q53 29 = 3 → sg q53 (q53 28) < 97 ∨ 122 < sg q53 (q53 28) by first | assumption | (intro z; exact absurd z (by omega)) | (intro _; assumption)), (show q53 30 = 0 → q53 29 = 3 → q53 31 = 7237492 → q53 27 + 3 ≤ q53 28 by first | assumption | omega), (show q 27 ≤ q53 27 by omega), (show q53 30 = 0 → q 30 = 0 ∧ q 28 ≤ q53 27 ∧ q 29 ≠ 0 by omega)⟩ dX11_fresh_54
  have J37 : ∀ (q37 : Nat → Int) (H : Heap) (locs : List Loc) (ls : Array Slot), qkm q37 → fr [27, 28, 29, 30, 31] q q37 → (q37 27 = q 27 ∧ q37 28 = q 28 ∧ q37 29 = q 29) → (q37 30 = 0 → q 30 = 0 ∧ q 29 = 2) → th_H D cT T (km q37) H → va_S (th_A T [0]) s.heap H locs → lv_has ls 4 [(0, .ref a0)] → W p l e (rmk 2 44) s m [.ref a0, .int y1].toArray below meth c H locs 0 0 (MQ below (th_QM D cT T (fun v q2 => (∃ r : Int64, v = some (.long r)) ∧ qkm q2 ∧ fr [27, 28, 29, 30, 31] q q2 ∧ ((q2 29 = 0 ∧ q2 27 = q2 26 ∧ q2 28 = q2 26) ∨ (1 ≤ q2 29 ∧ q2 27 < q2 28 ∧ q2 28 ≤ q2 26)) ∧ (q2 30 = 0 → q2 29 = 3 → sg q2 (q2 28) < 97 ∨ 122 < sg q2 (q2 28)) ∧ (q2 30 = 0 → q2 29 = 3 → q2 31 = 7237492 → q2 27 + 3 ≤ q2 28) ∧ (q 27 ≤ q2 27) ∧ (q2 30 = 0 → q 30 = 0 ∧ q 28 ≤ q2 27 ∧ q 29 ≠ 0)) [0]) [.ref a0, .int y1].toArray s 0 0 (th_A T [0])) (F0 m 37 ls []) := by
    intro q37 H locs ls hq37 h037 v37_inv0 v37_inv1 hH hS hl
    have w37_26 : q37 26 = q 26 := h037 26 (by decide) (Or.inl (by decide))
    refine lv_aload_n hx hb dX11_fresh_37 rfl (lv_at hl 0 rfl) ?_
    refine th_getM S hK hH inG11 t0 km_0 rfl 10 (by decide) gm_1240 rfl rfl dX11_fresh_38 (fun v1 hv1 wv1 => ?_)
    obtain ⟨lg2, rfl⟩ := th_V.long hv1
    have klg2 : lg2.toInt = q37 31 := by obtain ⟨vs, z1, z2⟩ := wv1; exact z2 _ z1
    refine lv_lstore_n (lv' := [(2, .long lg2), (0, .ref a0)]) hx hb dX11_fresh_41 rfl hl (by decide) rfl (fun ls hl => ?_)
    refine lv_aload_n hx hb dX11_fresh_42 rfl (lv_at hl 1 rfl) ?_
    refine th_callVp (n := 0) (As := []) S hK hH hS (th_A.sub (by decide)) (m_X11_isGood l D cT T q37 hT hq37 a0 t0) gm_1487 gm_1484 gm_1486 gm_49 gm_124 (by decide +kernel) ⟨rfl, rfl, Nat.le_of_ble_eq_true rfl, Nat.le_of_ble_eq_true rfl⟩ t0 km_0 rfl rfl hl.1 rfl (Nat.le_of_ble_eq_true rfl) dX11_fresh_43 ⟨Nat.zero_le _, Nat.zero_le _⟩ (fun x3 H locs ix3 ox3 hH hS hF1 => ?_)
    obtain ⟨ox3_0, ox3_1⟩ := ox3
    have ox3_0 : x3.toInt ≠ 0 → q37 30 = 0 := ox3_0
    have ox3_1 : x3.toInt = 0 → q37 30 ≠ 0 := ox3_1
    have l1x3 := ix3.1; have l2x3 := ix3.2
    refine lv_if_eq (tgt := 53) hx hb dX11_fresh_46 (by decide) (fun c4 => ?_) (fun c4 => ?_)
    · skip
      have rlc4 : x3.toInt = (0 : Int) := congrArg Int32.toInt c4
      have ir5 : IV x3 0 0 := iv_eL c4 (iv_c (by decide) : IV 0 0 0)
      have ir5a := ir5.1; have ir5b := ir5.2
      exact J53 q37 H locs ls lg2 hq37 h037 (show (q37 29 = 0 ∧ q37 27 = q37 26 ∧ q37 28 = q37 26) ∨ (1 ≤ q37 29 ∧ q37 27 < q37 28 ∧ q37 28 ≤ q37 26) by omega) (show q37 30 = 0 → q37 29 = 3 → sg q37 (q37 28) < 97 ∨ 122 < sg q37 (q37 28) by first | assumption | (intro z; exact absurd z (by omega)) | (intro _; assumption)) (show q37 30 = 0 → q37 29 = 3 → q37 31 = 7237492 → q37 27 + 3 ≤ q37 28 by first | assumption | omega) (show q 27 ≤ q37 27 by omega) (show q37 30 = 0 → q 30 = 0 ∧ q 28 ≤ q37 27 ∧ q 29 ≠ 0 by omega) hH hS (lv_sub hl [0] rfl)
    · skip
      have rlc4 : x3.toInt ≠ (0 : Int) := iv_ne c4
      have ir6 : IV x3 1 1 := iv_cutL ix3 (iv_c (by decide) : IV 0 0 0) c4 (by decide)
      have ir6a := ir6.1; have ir6b := ir6.2
      refine lv_aload_n hx hb dX11_fresh_49 rfl (lv_at hl 1 rfl) ?_
      refine th_callVM (n := 0) (As := []) S hK hH hS (th_A.sub (by decide)) (m_X11_goOn l D cT T q37 hT hq37 a0 t0 (show q37 28 ≤ q37 26 by omega)) gm_1445 gm_1442 gm_1444 gm_47 gm_124 (by decide +kernel) ⟨rfl, rfl, Nat.le_of_ble_eq_true rfl, Nat.le_of_ble_eq_true rfl⟩ t0 km_0 rfl rfl hl.1 rfl (Nat.le_of_ble_eq_true rfl) dX11_fresh_50 ⟨Nat.zero_le _, Nat.zero_le _⟩ (fun wq7 q7 H locs hEq7 hH hS hF1 => ?_)
      obtain ⟨rfl, hqq7, g0q7, pq7_0, pq7_1, pq7_2, pq7_3, pq7_4⟩ := hEq7
      show W p l e (rmk 2 44) s m [.ref a0, .int y1].toArray below meth c H locs 0 0 (MQ below (th_QM D cT T (fun v q2 => (∃ r : Int64, v = some (.long r)) ∧ qkm q2 ∧ fr [27, 28, 29, 30, 31] q q2 ∧ ((q2 29 = 0 ∧ q2 27 = q2 26 ∧ q2 28 = q2 26) ∨ (1 ≤ q2 29 ∧ q2 27 < q2 28 ∧ q2 28 ≤ q2 26)) ∧ (q2 30 = 0 → q2 29 = 3 → sg q2 (q2 28) < 97 ∨ 122 < sg q2 (q2 28)) ∧ (q2 30 = 0 → q2 29 = 3 → q2 31 = 7237492 → q2 27 + 3 ≤ q2 28) ∧ (q 27 ≤ q2 27) ∧ (q2 30 = 0 → q 30 = 0 ∧ q 28 ≤ q2 27 ∧ q 29 ≠ 0)) [0]) [.ref a0, .int y1].toArray s 0 0 (th_A T [0])) (F0 m 53 ls [])
      have pq7_0 : (q7 29 = 0 ∧ q7 27 = q7 26 ∧ q7 28 = q7 26) ∨ (1 ≤ q7 29 ∧ q7 27 < q7 28 ∧ q7 28 ≤ q7 26) := pq7_0
      have pq7_1 : q7 29 = 3 → sg q7 (q7 28) < 97 ∨ 122 < sg q7 (q7 28) := pq7_1
      have pq7_2 : q7 29 = 3 → q7 31 = 7237492 → q7 27 + 3 ≤ q7 28 := pq7_2
      have pq7_3 : q37 28 ≤ q7 27 := pq7_3
      have pq7_4 : q7 29 = 3 → 97 ≤ sg q37 (q7 27) ∧ sg q37 (q7 27) ≤ 122 := pq7_4
      have wq7_26 : q7 26 = q37 26 := g0q7 26 (by decide) (Or.inl (by decide))
      have wq7_30 : q7 30 = q37 30 := g0q7 30 (by decide) (Or.inl (by decide))
      have h0q7 : fr [27, 28, 29, 30, 31] q q7 := fr_tr h037 g0q7 (by decide)
      exact J53 q7 H locs ls lg2 hqq7 h0q7 (show (q7 29 = 0 ∧ q7 27 = q7 26 ∧ q7 28 = q7 26) ∨ (1 ≤ q7 29 ∧ q7 27 < q7 28 ∧ q7 28 ≤ q7 26) by omega) (show q7 30 = 0 → q7 29 = 3 → sg q7 (q7 28) < 97 ∨ 122 < sg q7 (q7 28) by first | assumption | (intro z; exact absurd z (by omega)) | (intro _; assumption)) (show q7 30 = 0 → q7 29 = 3 → q7 31 = 7237492 → q7 27 + 3 ≤ q7 28 by first | assumption | omega) (show q 27 ≤ q7 27 by omega) (show q7 30 = 0 → q 30 = 0 ∧ q 28 ≤ q7 27 ∧ q 29 ≠ 0 by omega) hH hS (lv_sub hl [0] rfl)
  have J0 : ∀ (H : Heap) (locs : List Loc) (ls : Array Slot), th_H D cT T (km q) H → va_S (th_A T [0]) s.heap H locs → lv_has ls 4 [(0, .ref a0), (1, .int y1)] → W p l e (rmk 2 44) s m [.ref a0, .int y1].toArray below meth c H locs 0 0 (MQ below (th_QM D cT T (fun v q2 => (∃ r : Int64, v = some (.long r)) ∧ qkm q2 ∧ fr [27, 28, 29, 30, 31] q q2 ∧ ((q2 29 = 0 ∧ q2 27 = q2 26 ∧ q2 28 = q2 26) ∨ (1 ≤ q2 29 ∧ q2 27 < q2 28 ∧ q2 28 ≤ q2 26)) ∧ (q2 30 = 0 → q2 29 = 3 → sg q2 (q2 28) < 97 ∨ 122 < sg q2 (q2 28)) ∧ (q2 30 = 0 → q2 29 = 3 → q2 31 = 7237492 → q2 27 + 3 ≤ q2 28) ∧ (q 27 ≤ q2 27) ∧ (q2 30 = 0 → q 30 = 0 ∧ q 28 ≤ q2 27 ∧ q 29 ≠ 0)) [0]) [.ref a0, .int y1].toArray s 0 0 (th_A T [0])) (F0 m 0 ls []) := by
    intro H locs ls hH hS hl
    refine lv_aload_n hx hb dX11_fresh_0 rfl (lv_at hl 0 rfl) ?_
    refine th_callVp (n := 0) (As := []) S hK hH hS (th_A.sub (by decide)) (m_X11_isGood l D cT T q hT hq a0 t0) gm_1487 gm_1484 gm_1486 gm_49 gm_124 (by decide +kernel) ⟨rfl, rfl, Nat.le_of_ble_eq_true rfl, Nat.le_of_ble_eq_true rfl⟩ t0 km_0 rfl rfl hl.1 rfl (Nat.le_of_ble_eq_true rfl) dX11_fresh_1 ⟨Nat.zero_le _, Nat.zero_le _⟩ (fun x8 H locs ix8 ox8 hH hS hF1 => ?_)
    obtain ⟨ox8_0, ox8_1⟩ := ox8
    have ox8_0 : x8.toInt ≠ 0 → q 30 = 0 := ox8_0
    have ox8_1 : x8.toInt = 0 → q 30 ≠ 0 := ox8_1
    have l1x8 := ix8.1; have l2x8 := ix8.2
    refine lv_if_ne (tgt := 9) hx hb dX11_fresh_4 (by decide) (fun c9 => ?_) (fun c9 => ?_)
    · skip
      have rlc9 : x8.toInt ≠ (0 : Int) := iv_ne c9
      have ir10 : IV x8 1 1 := iv_cutL ix8 (iv_c (by decide) : IV 0 0 0) c9 (by decide)
      have ir10a := ir10.1; have ir10b := ir10.2
      refine lv_aload_n hx hb dX11_fresh_9 rfl (lv_at hl 0 rfl) ?_
      refine th_get S hK hH inG11 t0 km_0 rfl 8 (by decide) gm_1238 rfl rfl dX11_fresh_10 (fun v11 hv11 fv11 => ?_)
      obtain ⟨x12, rfl, ix12⟩ := th_V.int hv11
      have kx12a : q 29 ≤ x12.toInt := ix12.1
      have kx12b : x12.toInt ≤ q 29 := ix12.2
      have bx12 := qkm_29 hq
      have ix12 : IV x12 0 5 := iv_w ix12 (qkm_29 hq)
      refine lv_iconst (v := 2) hx hb dX11_fresh_13 (by decide) ?_
      refine lv_icmp_eq (tgt := 24) hx hb dX11_fresh_14 (by decide) (fun c13 => ?_) (fun c13 => ?_)
      · skip
        have rlc13 : x12.toInt = (2 : Int) := congrArg Int32.toInt c13
        have ir14 : IV x12 2 2 := iv_eL c13 (iv_c (by decide) : IV 2 2 2)
        have ir14a := ir14.1; have ir14b := ir14.2
        refine lv_iload_n hx hb dX11_fresh_24 rfl (lv_at hl 1 rfl) ?_
        refine lv_if_lt (tgt := 37) hx hb dX11_fresh_25 (by decide) (fun c15 => ?_) (fun c15 => ?_)
        · skip
          have rlc15 : y1.toInt < (0 : Int) := iv_lt c15
          have ir16 : IV y1 (-2147483648) (-1) := iv_uL j1 (iv_c (by decide) : IV 0 0 0) (iv_lt c15) (by decide)
          have ir16a := ir16.1; have ir16b := ir16.2
          exact J37 q H locs ls hq fr_rf (show q 27 = q 27 ∧ q 28 = q 28 ∧ q 29 = q 29 by omega) (show q 30 = 0 → q 30 = 0 ∧ q 29 = 2 by omega) hH hS (lv_sub hl [0] rfl)
        · skip
          have rlc15 : (0 : Int) ≤ y1.toInt := iv_nlt c15
          have ir17 : IV y1 0 2147483647 := iv_vR (iv_c (by decide) : IV 0 0 0) j1 (iv_nlt c15) (by decide)
          have ir17a := ir17.1; have ir17b := ir17.2
          refine lv_aload_n hx hb dX11_fresh_28 rfl (lv_at hl 0 rfl) ?_
          refine lv_iconst (v := 3) hx hb dX11_fresh_29 (by decide) ?_
          refine lv_aload_n hx hb dX11_fresh_30 rfl (lv_at hl 0 rfl) ?_
          refine th_get S hK hH inG11 t0 km_0 rfl 6 (by decide) gm_1236 rfl rfl dX11_fresh_31 (fun v18 hv18 fv18 => ?_)
          obtain ⟨x19, rfl, ix19⟩ := th_V.int hv18
          have kx19a : q 27 ≤ x19.toInt := ix19.1
          have kx19b : x19.toInt ≤ q 27 := ix19.2
          have bx19 := qkm_27 hq
          have ix19 : IV x19 0 1600 := iv_w ix19 (qkm_27 hq)
          refine th_callVM (n := 2) (As := [.int 3, .int x19]) S hK hH hS (th_A.sub (by decide)) (m_X11_fails l D cT T q hT hq a0 t0 (3) (iv_w (iv_c (by decide) : IV 3 3 3) (by decide)) (x19) (iv_top _)) gm_1507 gm_1504 gm_1506 gm_54 gm_124 (by decide +kernel) ⟨rfl, rfl, Nat.le_of_ble_eq_true rfl, Nat.le_of_ble_eq_true rfl⟩ t0 km_0 rfl rfl hl.1 rfl (Nat.le_of_ble_eq_true rfl) dX11_fresh_34 ⟨Nat.zero_le _, Nat.zero_le _⟩ (fun wq20 q20 H locs hEq20 hH hS hF1 => ?_)
          obtain ⟨rfl, hqq20, g0q20, pq20_0⟩ := hEq20
          show W p l e (rmk 2 44) s m [.ref a0, .int y1].toArray below meth c H locs 0 0 (MQ below (th_QM D cT T (fun v q2 => (∃ r : Int64, v = some (.long r)) ∧ qkm q2 ∧ fr [27, 28, 29, 30, 31] q q2 ∧ ((q2 29 = 0 ∧ q2 27 = q2 26 ∧ q2 28 = q2 26) ∨ (1 ≤ q2 29 ∧ q2 27 < q2 28 ∧ q2 28 ≤ q2 26)) ∧ (q2 30 = 0 → q2 29 = 3 → sg q2 (q2 28) < 97 ∨ 122 < sg q2 (q2 28)) ∧ (q2 30 = 0 → q2 29 = 3 → q2 31 = 7237492 → q2 27 + 3 ≤ q2 28) ∧ (q 27 ≤ q2 27) ∧ (q2 30 = 0 → q 30 = 0 ∧ q 28 ≤ q2 27 ∧ q 29 ≠ 0)) [0]) [.ref a0, .int y1].toArray s 0 0 (th_A T [0])) (F0 m 37 ls [])
          have pq20_0 : q20 30 ≠ 0 := pq20_0
          have wq20_26 : q20 26 = q 26 := g0q20 26 (by decide) (Or.inl (by decide))
          have wq20_27 : q20 27 = q 27 := g0q20 27 (by decide) (Or.inl (by decide))
          have wq20_28 : q20 28 = q 28 := g0q20 28 (by decide) (Or.inl (by decide))
          have wq20_29 : q20 29 = q 29 := g0q20 29 (by decide) (Or.inl (by decide))
          have wq20_31 : q20 31 = q 31 := g0q20 31 (by decide) (Or.inl (by decide))
          have h0q20 : fr [27, 28, 29, 30, 31] q q20 := fr_tr fr_rf g0q20 (by decide)
          exact J37 q20 H locs ls hqq20 h0q20 (show q20 27 = q 27 ∧ q20 28 = q 28 ∧ q20 29 = q 29 by omega) (show q20 30 = 0 → q 30 = 0 ∧ q 29 = 2 by omega) hH hS (lv_sub hl [0] rfl)
      · skip
        have rlc13 : x12.toInt ≠ (2 : Int) := iv_ne c13
        refine lv_aload_n hx hb dX11_fresh_17 rfl (lv_at hl 0 rfl) ?_
        refine th_callVM (n := 0) (As := []) S hK hH hS (th_A.sub (by decide)) (m_X11_misplaced l D cT T q hT hq a0 t0) gm_1503 gm_1500 gm_1502 gm_53 gm_124 (by decide +kernel) ⟨rfl, rfl, Nat.le_of_ble_eq_true rfl, Nat.le_of_ble_eq_true rfl⟩ t0 km_0 rfl rfl hl.1 rfl (Nat.le_of_ble_eq_true rfl) dX11_fresh_18 ⟨Nat.zero_le _, Nat.zero_le _⟩ (fun wq21 q21 H locs hEq21 hH hS hF1 => ?_)
        obtain ⟨rfl, hqq21, g0q21, pq21_0⟩ := hEq21
        show W p l e (rmk 2 44) s m [.ref a0, .int y1].toArray below meth c H locs 0 0 (MQ below (th_QM D cT T (fun v q2 => (∃ r : Int64, v = some (.long r)) ∧ qkm q2 ∧ fr [27, 28, 29, 30, 31] q q2 ∧ ((q2 29 = 0 ∧ q2 27 = q2 26 ∧ q2 28 = q2 26) ∨ (1 ≤ q2 29 ∧ q2 27 < q2 28 ∧ q2 28 ≤ q2 26)) ∧ (q2 30 = 0 → q2 29 = 3 → sg q2 (q2 28) < 97 ∨ 122 < sg q2 (q2 28)) ∧ (q2 30 = 0 → q2 29 = 3 → q2 31 = 7237492 → q2 27 + 3 ≤ q2 28) ∧ (q 27 ≤ q2 27) ∧ (q2 30 = 0 → q 30 = 0 ∧ q 28 ≤ q2 27 ∧ q 29 ≠ 0)) [0]) [.ref a0, .int y1].toArray s 0 0 (th_A T [0])) (F0 m 21 ls [])
        have pq21_0 : q21 30 ≠ 0 := pq21_0
        have wq21_26 : q21 26 = q 26 := g0q21 26 (by decide) (Or.inl (by decide))
        have wq21_27 : q21 27 = q 27 := g0q21 27 (by decide) (Or.inl (by decide))
        have wq21_28 : q21 28 = q 28 := g0q21 28 (by decide) (Or.inl (by decide))
        have wq21_29 : q21 29 = q 29 := g0q21 29 (by decide) (Or.inl (by decide))
        have wq21_31 : q21 31 = q 31 := g0q21 31 (by decide) (Or.inl (by decide))
        have h0q21 : fr [27, 28, 29, 30, 31] q q21 := fr_tr fr_rf g0q21 (by decide)
        refine lv_goto (tgt := 37) hx hb dX11_fresh_21 (by decide) ?_
        exact J37 q21 H locs ls hqq21 h0q21 (show q21 27 = q 27 ∧ q21 28 = q 28 ∧ q21 29 = q 29 by omega) (show q21 30 = 0 → q 30 = 0 ∧ q 29 = 2 by omega) hH hS (lv_sub hl [0] rfl)
    · skip
      have rlc9 : x8.toInt = (0 : Int) := congrArg Int32.toInt c9
      have ir22 : IV x8 0 0 := iv_eL c9 (iv_c (by decide) : IV 0 0 0)
      have ir22a := ir22.1; have ir22b := ir22.2
      refine lv_lconst (v := 0) hx hb dX11_fresh_7 (by decide) ?_
      exact th_lretM S hK hH hS hr hlocks ⟨⟨_, rfl⟩, hq, fr_rf, (show (q 29 = 0 ∧ q 27 = q 26 ∧ q 28 = q 26) ∨ (1 ≤ q 29 ∧ q 27 < q 28 ∧ q 28 ≤ q 26) by omega), (show q 30 = 0 → q 29 = 3 → sg q (q 28) < 97 ∨ 122 < sg q (q 28) by first | assumption | (intro z; exact absurd z (by omega)) | (intro _; assumption)), (show q 30 = 0 → q 29 = 3 → q 31 = 7237492 → q 27 + 3 ≤ q 28 by first | assumption | omega), (show q 27 ≤ q 27 by omega), (show q 30 = 0 → q 30 = 0 ∧ q 28 ≤ q 27 ∧ q 29 ≠ 0 by omega)⟩ dX11_fresh_8
  exact J0 s.heap [] ls hH va_S.rf hl

set_option maxHeartbeats 20000000 in
set_option maxRecDepth 100000 in
theorem m_X11_mapHere (l : Launch) (D : va_G) (cT : Nat → ClassId) (T : Nat → Option Nat) (q : Nat → Int) (hT : tokm T) (hq : qkm q) (a0 : Nat) (t0 : T a0 = some 0) : th_Met l D cT T (km q) yX11_mapHere cX11_mapHere 1 (some .int) (rmk 1 24) [.ref a0] (th_R T (some (.inl (-1, 3)))) [] := by
  refine th_start (by decide) (Nat.le_of_ble_eq_true rfl) ?_
  intro p e s m below meth c ls S hK hH hr hlocks hnm hl
  have hx := S.1
  have hb := S.2.1
  have hl : lv_has ls 1 [(0, .ref a0)] := hl
  have J0 : ∀ (H : Heap) (locs : List Loc) (ls : Array Slot), th_H D cT T (km q) H → va_S (th_A T []) s.heap H locs → lv_has ls 1 [(0, .ref a0)] → W p l e (rmk 1 24) s m [.ref a0].toArray below meth c H locs 0 0 (MQ below (th_Q D cT T (km q) (th_R T (some (.inl (-1, 3)))) []) [.ref a0].toArray s 0 0 (th_A T [])) (F0 m 0 ls []) := by
    intro H locs ls hH hS hl
    refine lv_aload_n hx hb dX11_mapHere_0 rfl (lv_at hl 0 rfl) ?_
    refine lv_aload_n hx hb dX11_mapHere_1 rfl (lv_at hl 0 rfl) ?_
    refine th_get S hK hH inG11 t0 km_0 rfl 34 (by decide) gm_1264 rfl rfl dX11_mapHere_2 (fun v1 hv1 fv1 => ?_)
    obtain ⟨rf2, rfl, trf2⟩ := th_V.ref hv1
    refine lv_iconst (v := 4) hx hb dX11_mapHere_5 (by decide) ?_
    refine lv_aload_n hx hb dX11_mapHere_6 rfl (lv_at hl 0 rfl) ?_
    refine th_get S hK hH inG11 t0 km_0 rfl 42 (by decide) gm_1272 rfl rfl dX11_mapHere_7 (fun v3 hv3 fv3 => ?_)
    obtain ⟨x4, rfl, ix4⟩ := th_V.int hv3
    have kx4a : q 13 ≤ x4.toInt := ix4.1
    have kx4b : x4.toInt ≤ q 13 := ix4.2
    have ix4 : IV x4 0 1 := iv_w ix4 (qkm_13 hq)
    refine lv_imul hx hb dX11_mapHere_10 ?_
    refine lv_topi (fun x5 ex5 => ?_)
    have ix5 : IV x5 0 4 := by rw [ex5]; exact iv_mul (iv_c (by decide) : IV 4 4 4) ix4 (by decide) (by decide)
    have ux5 : x5.toInt = (4 : Int) * x4.toInt := by rw [ex5]; exact iv_mulE (iv_corner ((iv_c (by decide) : IV 4 4 4)).1 ((iv_c (by decide) : IV 4 4 4)).2 (ix4).1 (ix4).2 (by decide))
    refine lv_aload_n hx hb dX11_mapHere_11 rfl (lv_at hl 0 rfl) ?_
    refine th_get S hK hH inG11 t0 km_0 rfl 12 (by decide) gm_1242 rfl rfl dX11_mapHere_12 (fun v6 hv6 fv6 => ?_)
    obtain ⟨rf7, rfl, trf7⟩ := th_V.ref hv6
    refine lv_aload_n hx hb dX11_mapHere_15 rfl (lv_at hl 0 rfl) ?_
    refine th_get S hK hH inG11 t0 km_0 rfl 42 (by decide) gm_1272 rfl rfl dX11_mapHere_16 (fun v8 hv8 fv8 => ?_)
    obtain ⟨x9, rfl, ix9⟩ := th_V.int hv8
    have kx9a : q 13 ≤ x9.toInt := ix9.1
    have kx9b : x9.toInt ≤ q 13 := ix9.2
    have ix9 : IV x9 0 1 := iv_w ix9 (qkm_13 hq)
    refine th_iald S hK hH trf7 km_4 (th_in (hi := 1) ix9 (by decide)) dX11_mapHere_19 (fun v10 hv10 => ?_)
    obtain ⟨x11, rfl, ix11⟩ := th_bkU (lo := 0) (hi := 4) hv10 (qkm_11 hq) (qkm_14 hq)
    refine th_callVi (n := 3) (As := [.ref rf2, .int x5, .int x11]) S hK hH hS (th_A.sub (by decide)) (m_X11_here_v1 l D cT T q hT hq a0 t0 rf2 trf2 (x5) ix5 (x11) ix11) gm_1519 gm_1516 gm_1518 gm_57 gm_124 (by decide +kernel) ⟨rfl, rfl, Nat.le_of_ble_eq_true rfl, Nat.le_of_ble_eq_true rfl⟩ t0 km_0 rfl rfl hl.1 rfl (Nat.le_of_ble_eq_true rfl) dX11_mapHere_20 ⟨Nat.zero_le _, Nat.zero_le _⟩ (fun x12 H locs ix12 hH hS hF1 => ?_)
    exact th_iret S hK hH hS hr hlocks (th_R.i ix12) dX11_mapHere_23
  exact J0 s.heap [] ls hH va_S.rf hl

set_option maxHeartbeats 20000000 in
set_option maxRecDepth 100000 in
theorem m_X11_wordHere (l : Launch) (D : va_G) (cT : Nat → ClassId) (T : Nat → Option Nat) (q : Nat → Int) (hT : tokm T) (hq : qkm q) (a0 : Nat) (t0 : T a0 = some 0) : th_Met l D cT T (km q) yX11_wordHere cX11_wordHere 1 (some .int) (rmk 1 22) [.ref a0] (th_R T (some (.inl (0, 122)))) [] := by
  refine th_start (by decide) (Nat.le_of_ble_eq_true rfl) ?_
  intro p e s m below meth c ls S hK hH hr hlocks hnm hl
  have hx := S.1
  have hb := S.2.1
  have hl : lv_has ls 1 [(0, .ref a0)] := hl
  have J94_s0_0 : ∀ (H : Heap) (locs : List Loc) (ls : Array Slot), th_H D cT T (km q) H → va_S (th_A T []) s.heap H locs → lv_has ls 1 [] → W p l e (rmk 1 22) s m [.ref a0].toArray below meth c H locs 0 0 (MQ below (th_Q D cT T (km q) (th_R T (some (.inl (0, 122)))) []) [.ref a0].toArray s 0 0 (th_A T [])) (F0 m 94 ls [.int 0]) := by
    intro H locs ls hH hS hl
    exact th_iret S hK hH hS hr hlocks (th_R.i (iv_w (iv_c (by decide) : IV 0 0 0) (by decide))) dX11_wordHere_94
  have J94_s0_104 : ∀ (H : Heap) (locs : List Loc) (ls : Array Slot), th_H D cT T (km q) H → va_S (th_A T []) s.heap H locs → lv_has ls 1 [] → W p l e (rmk 1 22) s m [.ref a0].toArray below meth c H locs 0 0 (MQ below (th_Q D cT T (km q) (th_R T (some (.inl (0, 122)))) []) [.ref a0].toArray s 0 0 (th_A T [])) (F0 m 94 ls [.int 104]) := by
    intro H locs ls hH hS hl
    exact th_iret S hK hH hS hr hlocks (th_R.i (iv_w (iv_c (by decide) : IV 104 104 104) (by decide))) dX11_wordHere_94
  have J0 : ∀ (H : Heap) (locs : List Loc) (ls : Array Slot), th_H D cT T (km q) H → va_S (th_A T []) s.heap H locs → lv_has ls 1 [(0, .ref a0)] → W p l e (rmk 1 22) s m [.ref a0].toArray below meth c H locs 0 0 (MQ below (th_Q D cT T (km q) (th_R T (some (.inl (0, 122)))) []) [.ref a0].toArray s 0 0 (th_A T [])) (F0 m 0 ls []) := by
    intro H locs ls hH hS hl
    refine lv_aload_n hx hb dX11_wordHere_0 rfl (lv_at hl 0 rfl) ?_
    refine lv_ldc2 (v := 495588568165) hx hb S.2.2.2.1 (S.2.2.2.2 _ gm_1458) dX11_wordHere_1 ?_
    refine th_callVp (n := 1) (As := [.long 495588568165]) S hK hH hS (th_A.sub (by decide)) (m_X11_isWord l D cT T q hT hq a0 t0 (495588568165)) gm_1499 gm_1496 gm_1498 gm_52 gm_124 (by decide +kernel) ⟨rfl, rfl, Nat.le_of_ble_eq_true rfl, Nat.le_of_ble_eq_true rfl⟩ t0 km_0 rfl rfl hl.1 rfl (Nat.le_of_ble_eq_true rfl) dX11_wordHere_4 ⟨Nat.zero_le _, Nat.zero_le _⟩ (fun x1 H locs ix1 ox1 hH hS hF1 => ?_)
    obtain ⟨ox1_0, ox1_1⟩ := ox1
    have ox1_0 : x1.toInt ≠ 0 → q 29 = 3 ∧ q 31 = (495588568165 : Int) := ox1_0
    have ox1_1 : x1.toInt = 0 → q 29 ≠ 3 ∨ q 31 ≠ (495588568165 : Int) := ox1_1
    refine lv_if_eq (tgt := 13) hx hb dX11_wordHere_7 (by decide) (fun c2 => ?_) (fun c2 => ?_)
    · skip
      have rlc2 : x1.toInt = (0 : Int) := congrArg Int32.toInt c2
      have ir3 : IV x1 0 0 := iv_eL c2 (iv_c (by decide) : IV 0 0 0)
      have ir3a := ir3.1; have ir3b := ir3.2
      refine lv_aload_n hx hb dX11_wordHere_13 rfl (lv_at hl 0 rfl) ?_
      refine lv_ldc2 (v := 2036687218) hx hb S.2.2.2.1 (S.2.2.2.2 _ gm_1471) dX11_wordHere_14 ?_
      refine th_callVp (n := 1) (As := [.long 2036687218]) S hK hH hS (th_A.sub (by decide)) (m_X11_isWord l D cT T q hT hq a0 t0 (2036687218)) gm_1499 gm_1496 gm_1498 gm_52 gm_124 (by decide +kernel) ⟨rfl, rfl, Nat.le_of_ble_eq_true rfl, Nat.le_of_ble_eq_true rfl⟩ t0 km_0 rfl rfl hl.1 rfl (Nat.le_of_ble_eq_true rfl) dX11_wordHere_17 ⟨Nat.zero_le _, Nat.zero_le _⟩ (fun x4 H locs ix4 ox4 hH hS hF1 => ?_)
      obtain ⟨ox4_0, ox4_1⟩ := ox4
      have ox4_0 : x4.toInt ≠ 0 → q 29 = 3 ∧ q 31 = (2036687218 : Int) := ox4_0
      have ox4_1 : x4.toInt = 0 → q 29 ≠ 3 ∨ q 31 ≠ (2036687218 : Int) := ox4_1
      refine lv_if_eq (tgt := 26) hx hb dX11_wordHere_20 (by decide) (fun c5 => ?_) (fun c5 => ?_)
      · skip
        have rlc5 : x4.toInt = (0 : Int) := congrArg Int32.toInt c5
        have ir6 : IV x4 0 0 := iv_eL c5 (iv_c (by decide) : IV 0 0 0)
        have ir6a := ir6.1; have ir6b := ir6.2
        refine lv_aload_n hx hb dX11_wordHere_26 rfl (lv_at hl 0 rfl) ?_
        refine lv_ldc2 (v := 435426714990) hx hb S.2.2.2.1 (S.2.2.2.2 _ gm_1472) dX11_wordHere_27 ?_
        refine th_callVp (n := 1) (As := [.long 435426714990]) S hK hH hS (th_A.sub (by decide)) (m_X11_isWord l D cT T q hT hq a0 t0 (435426714990)) gm_1499 gm_1496 gm_1498 gm_52 gm_124 (by decide +kernel) ⟨rfl, rfl, Nat.le_of_ble_eq_true rfl, Nat.le_of_ble_eq_true rfl⟩ t0 km_0 rfl rfl hl.1 rfl (Nat.le_of_ble_eq_true rfl) dX11_wordHere_30 ⟨Nat.zero_le _, Nat.zero_le _⟩ (fun x7 H locs ix7 ox7 hH hS hF1 => ?_)
        obtain ⟨ox7_0, ox7_1⟩ := ox7
        have ox7_0 : x7.toInt ≠ 0 → q 29 = 3 ∧ q 31 = (435426714990 : Int) := ox7_0
        have ox7_1 : x7.toInt = 0 → q 29 ≠ 3 ∨ q 31 ≠ (435426714990 : Int) := ox7_1
        refine lv_if_eq (tgt := 39) hx hb dX11_wordHere_33 (by decide) (fun c8 => ?_) (fun c8 => ?_)
        · skip
          have rlc8 : x7.toInt = (0 : Int) := congrArg Int32.toInt c8
          have ir9 : IV x7 0 0 := iv_eL c8 (iv_c (by decide) : IV 0 0 0)
          have ir9a := ir9.1; have ir9b := ir9.2
          refine lv_aload_n hx hb dX11_wordHere_39 rfl (lv_at hl 0 rfl) ?_
          refine lv_ldc2 (v := 1668246628) hx hb S.2.2.2.1 (S.2.2.2.2 _ gm_1473) dX11_wordHere_40 ?_
          refine th_callVp (n := 1) (As := [.long 1668246628]) S hK hH hS (th_A.sub (by decide)) (m_X11_isWord l D cT T q hT hq a0 t0 (1668246628)) gm_1499 gm_1496 gm_1498 gm_52 gm_124 (by decide +kernel) ⟨rfl, rfl, Nat.le_of_ble_eq_true rfl, Nat.le_of_ble_eq_true rfl⟩ t0 km_0 rfl rfl hl.1 rfl (Nat.le_of_ble_eq_true rfl) dX11_wordHere_43 ⟨Nat.zero_le _, Nat.zero_le _⟩ (fun x10 H locs ix10 ox10 hH hS hF1 => ?_)
          obtain ⟨ox10_0, ox10_1⟩ := ox10
          have ox10_0 : x10.toInt ≠ 0 → q 29 = 3 ∧ q 31 = (1668246628 : Int) := ox10_0
          have ox10_1 : x10.toInt = 0 → q 29 ≠ 3 ∨ q 31 ≠ (1668246628 : Int) := ox10_1
          refine lv_if_eq (tgt := 52) hx hb dX11_wordHere_46 (by decide) (fun c11 => ?_) (fun c11 => ?_)
          · skip
            have rlc11 : x10.toInt = (0 : Int) := congrArg Int32.toInt c11
            have ir12 : IV x10 0 0 := iv_eL c11 (iv_c (by decide) : IV 0 0 0)
            have ir12a := ir12.1; have ir12b := ir12.2
            refine lv_aload_n hx hb dX11_wordHere_52 rfl (lv_at hl 0 rfl) ?_
            refine lv_ldc2 (v := 1936292453) hx hb S.2.2.2.1 (S.2.2.2.2 _ gm_1463) dX11_wordHere_53 ?_
            refine th_callVp (n := 1) (As := [.long 1936292453]) S hK hH hS (th_A.sub (by decide)) (m_X11_isWord l D cT T q hT hq a0 t0 (1936292453)) gm_1499 gm_1496 gm_1498 gm_52 gm_124 (by decide +kernel) ⟨rfl, rfl, Nat.le_of_ble_eq_true rfl, Nat.le_of_ble_eq_true rfl⟩ t0 km_0 rfl rfl hl.1 rfl (Nat.le_of_ble_eq_true rfl) dX11_wordHere_56 ⟨Nat.zero_le _, Nat.zero_le _⟩ (fun x13 H locs ix13 ox13 hH hS hF1 => ?_)
            obtain ⟨ox13_0, ox13_1⟩ := ox13
            have ox13_0 : x13.toInt ≠ 0 → q 29 = 3 ∧ q 31 = (1936292453 : Int) := ox13_0
            have ox13_1 : x13.toInt = 0 → q 29 ≠ 3 ∨ q 31 ≠ (1936292453 : Int) := ox13_1
            refine lv_if_eq (tgt := 65) hx hb dX11_wordHere_59 (by decide) (fun c14 => ?_) (fun c14 => ?_)
            · skip
              have rlc14 : x13.toInt = (0 : Int) := congrArg Int32.toInt c14
              have ir15 : IV x13 0 0 := iv_eL c14 (iv_c (by decide) : IV 0 0 0)
              have ir15a := ir15.1; have ir15b := ir15.2
              refine lv_aload_n hx hb dX11_wordHere_65 rfl (lv_at hl 0 rfl) ?_
              refine lv_ldc2 (v := 512970880104) hx hb S.2.2.2.1 (S.2.2.2.2 _ gm_1464) dX11_wordHere_66 ?_
              refine th_callVp (n := 1) (As := [.long 512970880104]) S hK hH hS (th_A.sub (by decide)) (m_X11_isWord l D cT T q hT hq a0 t0 (512970880104)) gm_1499 gm_1496 gm_1498 gm_52 gm_124 (by decide +kernel) ⟨rfl, rfl, Nat.le_of_ble_eq_true rfl, Nat.le_of_ble_eq_true rfl⟩ t0 km_0 rfl rfl hl.1 rfl (Nat.le_of_ble_eq_true rfl) dX11_wordHere_69 ⟨Nat.zero_le _, Nat.zero_le _⟩ (fun x16 H locs ix16 ox16 hH hS hF1 => ?_)
              obtain ⟨ox16_0, ox16_1⟩ := ox16
              have ox16_0 : x16.toInt ≠ 0 → q 29 = 3 ∧ q 31 = (512970880104 : Int) := ox16_0
              have ox16_1 : x16.toInt = 0 → q 29 ≠ 3 ∨ q 31 ≠ (512970880104 : Int) := ox16_1
              refine lv_if_eq (tgt := 78) hx hb dX11_wordHere_72 (by decide) (fun c17 => ?_) (fun c17 => ?_)
              · skip
                have rlc17 : x16.toInt = (0 : Int) := congrArg Int32.toInt c17
                have ir18 : IV x16 0 0 := iv_eL c17 (iv_c (by decide) : IV 0 0 0)
                have ir18a := ir18.1; have ir18b := ir18.2
                refine lv_aload_n hx hb dX11_wordHere_78 rfl (lv_at hl 0 rfl) ?_
                refine lv_ldc2 (v := 448545973619) hx hb S.2.2.2.1 (S.2.2.2.2 _ gm_1474) dX11_wordHere_79 ?_
                refine th_callVp (n := 1) (As := [.long 448545973619]) S hK hH hS (th_A.sub (by decide)) (m_X11_isWord l D cT T q hT hq a0 t0 (448545973619)) gm_1499 gm_1496 gm_1498 gm_52 gm_124 (by decide +kernel) ⟨rfl, rfl, Nat.le_of_ble_eq_true rfl, Nat.le_of_ble_eq_true rfl⟩ t0 km_0 rfl rfl hl.1 rfl (Nat.le_of_ble_eq_true rfl) dX11_wordHere_82 ⟨Nat.zero_le _, Nat.zero_le _⟩ (fun x19 H locs ix19 ox19 hH hS hF1 => ?_)
                obtain ⟨ox19_0, ox19_1⟩ := ox19
                have ox19_0 : x19.toInt ≠ 0 → q 29 = 3 ∧ q 31 = (448545973619 : Int) := ox19_0
                have ox19_1 : x19.toInt = 0 → q 29 ≠ 3 ∨ q 31 ≠ (448545973619 : Int) := ox19_1
                refine lv_if_eq (tgt := 93) hx hb dX11_wordHere_85 (by decide) (fun c20 => ?_) (fun c20 => ?_)
                · skip
                  have rlc20 : x19.toInt = (0 : Int) := congrArg Int32.toInt c20
                  have ir21 : IV x19 0 0 := iv_eL c20 (iv_c (by decide) : IV 0 0 0)
                  have ir21a := ir21.1; have ir21b := ir21.2
                  refine lv_iconst (v := 0) hx hb dX11_wordHere_93 (by decide) ?_
                  exact J94_s0_0 H locs ls  hH hS (lv_sub hl [] rfl)
                · skip
                  have rlc20 : x19.toInt ≠ (0 : Int) := iv_ne c20
                  have ir22 : IV x19 1 1 := iv_cutL ix19 (iv_c (by decide) : IV 0 0 0) c20 (by decide)
                  have ir22a := ir22.1; have ir22b := ir22.2
                  refine lv_bipush (v := 104) hx hb dX11_wordHere_88 (by decide) ?_
                  refine lv_goto (tgt := 94) hx hb dX11_wordHere_90 (by decide) ?_
                  exact J94_s0_104 H locs ls  hH hS (lv_sub hl [] rfl)
              · skip
                have rlc17 : x16.toInt ≠ (0 : Int) := iv_ne c17
                have ir23 : IV x16 1 1 := iv_cutL ix16 (iv_c (by decide) : IV 0 0 0) c17 (by decide)
                have ir23a := ir23.1; have ir23b := ir23.2
                refine lv_bipush (v := 119) hx hb dX11_wordHere_75 (by decide) ?_
                exact th_iret S hK hH hS hr hlocks (th_R.i (iv_w (iv_c (by decide) : IV 119 119 119) (by decide))) dX11_wordHere_77
            · skip
              have rlc14 : x13.toInt ≠ (0 : Int) := iv_ne c14
              have ir24 : IV x13 1 1 := iv_cutL ix13 (iv_c (by decide) : IV 0 0 0) c14 (by decide)
              have ir24a := ir24.1; have ir24b := ir24.2
              refine lv_bipush (v := 122) hx hb dX11_wordHere_62 (by decide) ?_
              exact th_iret S hK hH hS hr hlocks (th_R.i (iv_w (iv_c (by decide) : IV 122 122 122) (by decide))) dX11_wordHere_64
          · skip
            have rlc11 : x10.toInt ≠ (0 : Int) := iv_ne c11
            have ir25 : IV x10 1 1 := iv_cutL ix10 (iv_c (by decide) : IV 0 0 0) c11 (by decide)
            have ir25a := ir25.1; have ir25b := ir25.2
            refine lv_bipush (v := 99) hx hb dX11_wordHere_49 (by decide) ?_
            exact th_iret S hK hH hS hr hlocks (th_R.i (iv_w (iv_c (by decide) : IV 99 99 99) (by decide))) dX11_wordHere_51
        · skip
          have rlc8 : x7.toInt ≠ (0 : Int) := iv_ne c8
          have ir26 : IV x7 1 1 := iv_cutL ix7 (iv_c (by decide) : IV 0 0 0) c8 (by decide)
          have ir26a := ir26.1; have ir26b := ir26.2
          refine lv_bipush (v := 101) hx hb dX11_wordHere_36 (by decide) ?_
          exact th_iret S hK hH hS hr hlocks (th_R.i (iv_w (iv_c (by decide) : IV 101 101 101) (by decide))) dX11_wordHere_38
      · skip
        have rlc5 : x4.toInt ≠ (0 : Int) := iv_ne c5
        have ir27 : IV x4 1 1 := iv_cutL ix4 (iv_c (by decide) : IV 0 0 0) c5 (by decide)
        have ir27a := ir27.1; have ir27b := ir27.2
        refine lv_bipush (v := 121) hx hb dX11_wordHere_23 (by decide) ?_
        exact th_iret S hK hH hS hr hlocks (th_R.i (iv_w (iv_c (by decide) : IV 121 121 121) (by decide))) dX11_wordHere_25
    · skip
      have rlc2 : x1.toInt ≠ (0 : Int) := iv_ne c2
      have ir28 : IV x1 1 1 := iv_cutL ix1 (iv_c (by decide) : IV 0 0 0) c2 (by decide)
      have ir28a := ir28.1; have ir28b := ir28.2
      refine lv_bipush (v := 115) hx hb dX11_wordHere_10 (by decide) ?_
      exact th_iret S hK hH hS hr hlocks (th_R.i (iv_w (iv_c (by decide) : IV 115 115 115) (by decide))) dX11_wordHere_12
  exact J0 s.heap [] ls hH va_S.rf hl

set_option maxHeartbeats 20000000 in
set_option maxRecDepth 100000 in
theorem m_X11_rankHere (l : Launch) (D : va_G) (cT : Nat → ClassId) (T : Nat → Option Nat) (q : Nat → Int) (hT : tokm T) (hq : qkm q) (a0 : Nat) (t0 : T a0 = some 0) : th_Met l D cT T (km q) yX11_rankHere cX11_rankHere 1 (some .int) (rmk 2 42) [.ref a0] (th_R T (some (.inl (0, 6)))) [] := by
  refine th_start (by decide) (Nat.le_of_ble_eq_true rfl) ?_
  intro p e s m below meth c ls S hK hH hr hlocks hnm hl
  have hx := S.1
  have hb := S.2.1
  have hl : lv_has ls 1 [(0, .ref a0)] := hl
  have J106_s0_0 : ∀ (H : Heap) (locs : List Loc) (ls : Array Slot), th_H D cT T (km q) H → va_S (th_A T []) s.heap H locs → lv_has ls 1 [] → W p l e (rmk 2 42) s m [.ref a0].toArray below meth c H locs 0 0 (MQ below (th_Q D cT T (km q) (th_R T (some (.inl (0, 6)))) []) [.ref a0].toArray s 0 0 (th_A T [])) (F0 m 106 ls [.int 0]) := by
    intro H locs ls hH hS hl
    exact th_iret S hK hH hS hr hlocks (th_R.i (iv_w (iv_c (by decide) : IV 0 0 0) (by decide))) dX11_rankHere_106
  have J106_s0_6 : ∀ (H : Heap) (locs : List Loc) (ls : Array Slot), th_H D cT T (km q) H → va_S (th_A T []) s.heap H locs → lv_has ls 1 [] → W p l e (rmk 2 42) s m [.ref a0].toArray below meth c H locs 0 0 (MQ below (th_Q D cT T (km q) (th_R T (some (.inl (0, 6)))) []) [.ref a0].toArray s 0 0 (th_A T [])) (F0 m 106 ls [.int 6]) := by
    intro H locs ls hH hS hl
    exact th_iret S hK hH hS hr hlocks (th_R.i (iv_w (iv_c (by decide) : IV 6 6 6) (by decide))) dX11_rankHere_106
  have J100 : ∀ (H : Heap) (locs : List Loc) (ls : Array Slot), th_H D cT T (km q) H → va_S (th_A T []) s.heap H locs → lv_has ls 1 [] → W p l e (rmk 2 42) s m [.ref a0].toArray below meth c H locs 0 0 (MQ below (th_Q D cT T (km q) (th_R T (some (.inl (0, 6)))) []) [.ref a0].toArray s 0 0 (th_A T [])) (F0 m 100 ls []) := by
    intro H locs ls hH hS hl
    refine lv_bipush (v := 6) hx hb dX11_rankHere_100 (by decide) ?_
    refine lv_goto (tgt := 106) hx hb dX11_rankHere_102 (by decide) ?_
    exact J106_s0_6 H locs ls  hH hS (lv_sub hl [] rfl)
  have J71 : ∀ (H : Heap) (locs : List Loc) (ls : Array Slot), th_H D cT T (km q) H → va_S (th_A T []) s.heap H locs → lv_has ls 1 [] → W p l e (rmk 2 42) s m [.ref a0].toArray below meth c H locs 0 0 (MQ below (th_Q D cT T (km q) (th_R T (some (.inl (0, 6)))) []) [.ref a0].toArray s 0 0 (th_A T [])) (F0 m 71 ls []) := by
    intro H locs ls hH hS hl
    refine lv_iconst (v := 5) hx hb dX11_rankHere_71 (by decide) ?_
    exact th_iret S hK hH hS hr hlocks (th_R.i (iv_w (iv_c (by decide) : IV 5 5 5) (by decide))) dX11_rankHere_72
  have J51 : ∀ (H : Heap) (locs : List Loc) (ls : Array Slot), th_H D cT T (km q) H → va_S (th_A T []) s.heap H locs → lv_has ls 1 [] → W p l e (rmk 2 42) s m [.ref a0].toArray below meth c H locs 0 0 (MQ below (th_Q D cT T (km q) (th_R T (some (.inl (0, 6)))) []) [.ref a0].toArray s 0 0 (th_A T [])) (F0 m 51 ls []) := by
    intro H locs ls hH hS hl
    refine lv_iconst (v := 4) hx hb dX11_rankHere_51 (by decide) ?_
    exact th_iret S hK hH hS hr hlocks (th_R.i (iv_w (iv_c (by decide) : IV 4 4 4) (by decide))) dX11_rankHere_52
  have J0 : ∀ (H : Heap) (locs : List Loc) (ls : Array Slot), th_H D cT T (km q) H → va_S (th_A T []) s.heap H locs → lv_has ls 1 [(0, .ref a0)] → W p l e (rmk 2 42) s m [.ref a0].toArray below meth c H locs 0 0 (MQ below (th_Q D cT T (km q) (th_R T (some (.inl (0, 6)))) []) [.ref a0].toArray s 0 0 (th_A T [])) (F0 m 0 ls []) := by
    intro H locs ls hH hS hl
    refine lv_aload_n hx hb dX11_rankHere_0 rfl (lv_at hl 0 rfl) ?_
    refine lv_ldc2 (v := 6385252) hx hb S.2.2.2.1 (S.2.2.2.2 _ gm_1476) dX11_rankHere_1 ?_
    refine th_callVp (n := 1) (As := [.long 6385252]) S hK hH hS (th_A.sub (by decide)) (m_X11_isWord l D cT T q hT hq a0 t0 (6385252)) gm_1499 gm_1496 gm_1498 gm_52 gm_124 (by decide +kernel) ⟨rfl, rfl, Nat.le_of_ble_eq_true rfl, Nat.le_of_ble_eq_true rfl⟩ t0 km_0 rfl rfl hl.1 rfl (Nat.le_of_ble_eq_true rfl) dX11_rankHere_4 ⟨Nat.zero_le _, Nat.zero_le _⟩ (fun x1 H locs ix1 ox1 hH hS hF1 => ?_)
    obtain ⟨ox1_0, ox1_1⟩ := ox1
    have ox1_0 : x1.toInt ≠ 0 → q 29 = 3 ∧ q 31 = (6385252 : Int) := ox1_0
    have ox1_1 : x1.toInt = 0 → q 29 ≠ 3 ∨ q 31 ≠ (6385252 : Int) := ox1_1
    refine lv_if_eq (tgt := 12) hx hb dX11_rankHere_7 (by decide) (fun c2 => ?_) (fun c2 => ?_)
    · skip
      have rlc2 : x1.toInt = (0 : Int) := congrArg Int32.toInt c2
      have ir3 : IV x1 0 0 := iv_eL c2 (iv_c (by decide) : IV 0 0 0)
      have ir3a := ir3.1; have ir3b := ir3.2
      refine lv_aload_n hx hb dX11_rankHere_12 rfl (lv_at hl 0 rfl) ?_
      refine lv_ldc2 (v := 28530) hx hb S.2.2.2.1 (S.2.2.2.2 _ gm_1475) dX11_rankHere_13 ?_
      refine th_callVp (n := 1) (As := [.long 28530]) S hK hH hS (th_A.sub (by decide)) (m_X11_isWord l D cT T q hT hq a0 t0 (28530)) gm_1499 gm_1496 gm_1498 gm_52 gm_124 (by decide +kernel) ⟨rfl, rfl, Nat.le_of_ble_eq_true rfl, Nat.le_of_ble_eq_true rfl⟩ t0 km_0 rfl rfl hl.1 rfl (Nat.le_of_ble_eq_true rfl) dX11_rankHere_16 ⟨Nat.zero_le _, Nat.zero_le _⟩ (fun x4 H locs ix4 ox4 hH hS hF1 => ?_)
      obtain ⟨ox4_0, ox4_1⟩ := ox4
      have ox4_0 : x4.toInt ≠ 0 → q 29 = 3 ∧ q 31 = (28530 : Int) := ox4_0
      have ox4_1 : x4.toInt = 0 → q 29 ≠ 3 ∨ q 31 ≠ (28530 : Int) := ox4_1
      refine lv_if_eq (tgt := 24) hx hb dX11_rankHere_19 (by decide) (fun c5 => ?_) (fun c5 => ?_)
      · skip
        have rlc5 : x4.toInt = (0 : Int) := congrArg Int32.toInt c5
        have ir6 : IV x4 0 0 := iv_eL c5 (iv_c (by decide) : IV 0 0 0)
        have ir6a := ir6.1; have ir6b := ir6.2
        refine lv_aload_n hx hb dX11_rankHere_24 rfl (lv_at hl 0 rfl) ?_
        refine lv_bipush (v := 60) hx hb dX11_rankHere_25 (by decide) ?_
        refine th_callVp (n := 1) (As := [.int 60]) S hK hH hS (th_A.sub (by decide)) (m_X11_isSignHere l D cT T q hT hq a0 t0 (60) (iv_top _)) gm_1563 gm_1560 gm_1562 gm_68 gm_124 (by decide +kernel) ⟨rfl, rfl, Nat.le_of_ble_eq_true rfl, Nat.le_of_ble_eq_true rfl⟩ t0 km_0 rfl rfl hl.1 rfl (Nat.le_of_ble_eq_true rfl) dX11_rankHere_27 ⟨Nat.zero_le _, Nat.zero_le _⟩ (fun x7 H locs ix7 ox7 hH hS hF1 => ?_)
        have ox7 : x7.toInt ≠ 0 → q 29 = 5 ∧ sg q (q 27) = (60 : Int) := ox7
        refine lv_if_ne (tgt := 51) hx hb dX11_rankHere_30 (by decide) (fun c8 => ?_) (fun c8 => ?_)
        · skip
          have rlc8 : x7.toInt ≠ (0 : Int) := iv_ne c8
          have ir9 : IV x7 1 1 := iv_cutL ix7 (iv_c (by decide) : IV 0 0 0) c8 (by decide)
          have ir9a := ir9.1; have ir9b := ir9.2
          exact J51 H locs ls  hH hS (lv_sub hl [] rfl)
        · skip
          have rlc8 : x7.toInt = (0 : Int) := congrArg Int32.toInt c8
          have ir10 : IV x7 0 0 := iv_eL c8 (iv_c (by decide) : IV 0 0 0)
          have ir10a := ir10.1; have ir10b := ir10.2
          refine lv_aload_n hx hb dX11_rankHere_33 rfl (lv_at hl 0 rfl) ?_
          refine lv_bipush (v := 62) hx hb dX11_rankHere_34 (by decide) ?_
          refine th_callVp (n := 1) (As := [.int 62]) S hK hH hS (th_A.sub (by decide)) (m_X11_isSignHere l D cT T q hT hq a0 t0 (62) (iv_top _)) gm_1563 gm_1560 gm_1562 gm_68 gm_124 (by decide +kernel) ⟨rfl, rfl, Nat.le_of_ble_eq_true rfl, Nat.le_of_ble_eq_true rfl⟩ t0 km_0 rfl rfl hl.1 rfl (Nat.le_of_ble_eq_true rfl) dX11_rankHere_36 ⟨Nat.zero_le _, Nat.zero_le _⟩ (fun x11 H locs ix11 ox11 hH hS hF1 => ?_)
          have ox11 : x11.toInt ≠ 0 → q 29 = 5 ∧ sg q (q 27) = (62 : Int) := ox11
          refine lv_if_ne (tgt := 51) hx hb dX11_rankHere_39 (by decide) (fun c12 => ?_) (fun c12 => ?_)
          · skip
            have rlc12 : x11.toInt ≠ (0 : Int) := iv_ne c12
            have ir13 : IV x11 1 1 := iv_cutL ix11 (iv_c (by decide) : IV 0 0 0) c12 (by decide)
            have ir13a := ir13.1; have ir13b := ir13.2
            exact J51 H locs ls  hH hS (lv_sub hl [] rfl)
          · skip
            have rlc12 : x11.toInt = (0 : Int) := congrArg Int32.toInt c12
            have ir14 : IV x11 0 0 := iv_eL c12 (iv_c (by decide) : IV 0 0 0)
            have ir14a := ir14.1; have ir14b := ir14.2
            refine lv_aload_n hx hb dX11_rankHere_42 rfl (lv_at hl 0 rfl) ?_
            refine lv_bipush (v := 61) hx hb dX11_rankHere_43 (by decide) ?_
            refine th_callVp (n := 1) (As := [.int 61]) S hK hH hS (th_A.sub (by decide)) (m_X11_isSignHere l D cT T q hT hq a0 t0 (61) (iv_top _)) gm_1563 gm_1560 gm_1562 gm_68 gm_124 (by decide +kernel) ⟨rfl, rfl, Nat.le_of_ble_eq_true rfl, Nat.le_of_ble_eq_true rfl⟩ t0 km_0 rfl rfl hl.1 rfl (Nat.le_of_ble_eq_true rfl) dX11_rankHere_45 ⟨Nat.zero_le _, Nat.zero_le _⟩ (fun x15 H locs ix15 ox15 hH hS hF1 => ?_)
            have ox15 : x15.toInt ≠ 0 → q 29 = 5 ∧ sg q (q 27) = (61 : Int) := ox15
            refine lv_if_eq (tgt := 53) hx hb dX11_rankHere_48 (by decide) (fun c16 => ?_) (fun c16 => ?_)
            · skip
              have rlc16 : x15.toInt = (0 : Int) := congrArg Int32.toInt c16
              have ir17 : IV x15 0 0 := iv_eL c16 (iv_c (by decide) : IV 0 0 0)
              have ir17a := ir17.1; have ir17b := ir17.2
              refine lv_aload_n hx hb dX11_rankHere_53 rfl (lv_at hl 0 rfl) ?_
              refine lv_bipush (v := 43) hx hb dX11_rankHere_54 (by decide) ?_
              refine th_callVp (n := 1) (As := [.int 43]) S hK hH hS (th_A.sub (by decide)) (m_X11_isSignHere l D cT T q hT hq a0 t0 (43) (iv_top _)) gm_1563 gm_1560 gm_1562 gm_68 gm_124 (by decide +kernel) ⟨rfl, rfl, Nat.le_of_ble_eq_true rfl, Nat.le_of_ble_eq_true rfl⟩ t0 km_0 rfl rfl hl.1 rfl (Nat.le_of_ble_eq_true rfl) dX11_rankHere_56 ⟨Nat.zero_le _, Nat.zero_le _⟩ (fun x18 H locs ix18 ox18 hH hS hF1 => ?_)
              have ox18 : x18.toInt ≠ 0 → q 29 = 5 ∧ sg q (q 27) = (43 : Int) := ox18
              refine lv_if_ne (tgt := 71) hx hb dX11_rankHere_59 (by decide) (fun c19 => ?_) (fun c19 => ?_)
              · skip
                have rlc19 : x18.toInt ≠ (0 : Int) := iv_ne c19
                have ir20 : IV x18 1 1 := iv_cutL ix18 (iv_c (by decide) : IV 0 0 0) c19 (by decide)
                have ir20a := ir20.1; have ir20b := ir20.2
                exact J71 H locs ls  hH hS (lv_sub hl [] rfl)
              · skip
                have rlc19 : x18.toInt = (0 : Int) := congrArg Int32.toInt c19
                have ir21 : IV x18 0 0 := iv_eL c19 (iv_c (by decide) : IV 0 0 0)
                have ir21a := ir21.1; have ir21b := ir21.2
                refine lv_aload_n hx hb dX11_rankHere_62 rfl (lv_at hl 0 rfl) ?_
                refine lv_bipush (v := 45) hx hb dX11_rankHere_63 (by decide) ?_
                refine th_callVp (n := 1) (As := [.int 45]) S hK hH hS (th_A.sub (by decide)) (m_X11_isSignHere l D cT T q hT hq a0 t0 (45) (iv_top _)) gm_1563 gm_1560 gm_1562 gm_68 gm_124 (by decide +kernel) ⟨rfl, rfl, Nat.le_of_ble_eq_true rfl, Nat.le_of_ble_eq_true rfl⟩ t0 km_0 rfl rfl hl.1 rfl (Nat.le_of_ble_eq_true rfl) dX11_rankHere_65 ⟨Nat.zero_le _, Nat.zero_le _⟩ (fun x22 H locs ix22 ox22 hH hS hF1 => ?_)
                have ox22 : x22.toInt ≠ 0 → q 29 = 5 ∧ sg q (q 27) = (45 : Int) := ox22
                refine lv_if_eq (tgt := 73) hx hb dX11_rankHere_68 (by decide) (fun c23 => ?_) (fun c23 => ?_)
                · skip
                  have rlc23 : x22.toInt = (0 : Int) := congrArg Int32.toInt c23
                  have ir24 : IV x22 0 0 := iv_eL c23 (iv_c (by decide) : IV 0 0 0)
                  have ir24a := ir24.1; have ir24b := ir24.2
                  refine lv_aload_n hx hb dX11_rankHere_73 rfl (lv_at hl 0 rfl) ?_
                  refine lv_bipush (v := 42) hx hb dX11_rankHere_74 (by decide) ?_
                  refine th_callVp (n := 1) (As := [.int 42]) S hK hH hS (th_A.sub (by decide)) (m_X11_isSignHere l D cT T q hT hq a0 t0 (42) (iv_top _)) gm_1563 gm_1560 gm_1562 gm_68 gm_124 (by decide +kernel) ⟨rfl, rfl, Nat.le_of_ble_eq_true rfl, Nat.le_of_ble_eq_true rfl⟩ t0 km_0 rfl rfl hl.1 rfl (Nat.le_of_ble_eq_true rfl) dX11_rankHere_76 ⟨Nat.zero_le _, Nat.zero_le _⟩ (fun x25 H locs ix25 ox25 hH hS hF1 => ?_)
                  have ox25 : x25.toInt ≠ 0 → q 29 = 5 ∧ sg q (q 27) = (42 : Int) := ox25
                  refine lv_if_ne (tgt := 100) hx hb dX11_rankHere_79 (by decide) (fun c26 => ?_) (fun c26 => ?_)
                  · skip
                    have rlc26 : x25.toInt ≠ (0 : Int) := iv_ne c26
                    have ir27 : IV x25 1 1 := iv_cutL ix25 (iv_c (by decide) : IV 0 0 0) c26 (by decide)
                    have ir27a := ir27.1; have ir27b := ir27.2
                    exact J100 H locs ls  hH hS (lv_sub hl [] rfl)
                  · skip
                    have rlc26 : x25.toInt = (0 : Int) := congrArg Int32.toInt c26
                    have ir28 : IV x25 0 0 := iv_eL c26 (iv_c (by decide) : IV 0 0 0)
                    have ir28a := ir28.1; have ir28b := ir28.2
                    refine lv_aload_n hx hb dX11_rankHere_82 rfl (lv_at hl 0 rfl) ?_
                    refine lv_bipush (v := 47) hx hb dX11_rankHere_83 (by decide) ?_
                    refine th_callVp (n := 1) (As := [.int 47]) S hK hH hS (th_A.sub (by decide)) (m_X11_isSignHere l D cT T q hT hq a0 t0 (47) (iv_top _)) gm_1563 gm_1560 gm_1562 gm_68 gm_124 (by decide +kernel) ⟨rfl, rfl, Nat.le_of_ble_eq_true rfl, Nat.le_of_ble_eq_true rfl⟩ t0 km_0 rfl rfl hl.1 rfl (Nat.le_of_ble_eq_true rfl) dX11_rankHere_85 ⟨Nat.zero_le _, Nat.zero_le _⟩ (fun x29 H locs ix29 ox29 hH hS hF1 => ?_)
                    have ox29 : x29.toInt ≠ 0 → q 29 = 5 ∧ sg q (q 27) = (47 : Int) := ox29
                    refine lv_if_ne (tgt := 100) hx hb dX11_rankHere_88 (by decide) (fun c30 => ?_) (fun c30 => ?_)
                    · skip
                      have rlc30 : x29.toInt ≠ (0 : Int) := iv_ne c30
                      have ir31 : IV x29 1 1 := iv_cutL ix29 (iv_c (by decide) : IV 0 0 0) c30 (by decide)
                      have ir31a := ir31.1; have ir31b := ir31.2
                      exact J100 H locs ls  hH hS (lv_sub hl [] rfl)
                    · skip
                      have rlc30 : x29.toInt = (0 : Int) := congrArg Int32.toInt c30
                      have ir32 : IV x29 0 0 := iv_eL c30 (iv_c (by decide) : IV 0 0 0)
                      have ir32a := ir32.1; have ir32b := ir32.2
                      refine lv_aload_n hx hb dX11_rankHere_91 rfl (lv_at hl 0 rfl) ?_
                      refine lv_bipush (v := 37) hx hb dX11_rankHere_92 (by decide) ?_
                      refine th_callVp (n := 1) (As := [.int 37]) S hK hH hS (th_A.sub (by decide)) (m_X11_isSignHere l D cT T q hT hq a0 t0 (37) (iv_top _)) gm_1563 gm_1560 gm_1562 gm_68 gm_124 (by decide +kernel) ⟨rfl, rfl, Nat.le_of_ble_eq_true rfl, Nat.le_of_ble_eq_true rfl⟩ t0 km_0 rfl rfl hl.1 rfl (Nat.le_of_ble_eq_true rfl) dX11_rankHere_94 ⟨Nat.zero_le _, Nat.zero_le _⟩ (fun x33 H locs ix33 ox33 hH hS hF1 => ?_)
                      have ox33 : x33.toInt ≠ 0 → q 29 = 5 ∧ sg q (q 27) = (37 : Int) := ox33
                      refine lv_if_eq (tgt := 105) hx hb dX11_rankHere_97 (by decide) (fun c34 => ?_) (fun c34 => ?_)
                      · skip
                        have rlc34 : x33.toInt = (0 : Int) := congrArg Int32.toInt c34
                        have ir35 : IV x33 0 0 := iv_eL c34 (iv_c (by decide) : IV 0 0 0)
                        have ir35a := ir35.1; have ir35b := ir35.2
                        refine lv_iconst (v := 0) hx hb dX11_rankHere_105 (by decide) ?_
                        exact J106_s0_0 H locs ls  hH hS (lv_sub hl [] rfl)
                      · skip
                        have rlc34 : x33.toInt ≠ (0 : Int) := iv_ne c34
                        have ir36 : IV x33 1 1 := iv_cutL ix33 (iv_c (by decide) : IV 0 0 0) c34 (by decide)
                        have ir36a := ir36.1; have ir36b := ir36.2
                        exact J100 H locs ls  hH hS (lv_sub hl [] rfl)
                · skip
                  have rlc23 : x22.toInt ≠ (0 : Int) := iv_ne c23
                  have ir37 : IV x22 1 1 := iv_cutL ix22 (iv_c (by decide) : IV 0 0 0) c23 (by decide)
                  have ir37a := ir37.1; have ir37b := ir37.2
                  exact J71 H locs ls  hH hS (lv_sub hl [] rfl)
            · skip
              have rlc16 : x15.toInt ≠ (0 : Int) := iv_ne c16
              have ir38 : IV x15 1 1 := iv_cutL ix15 (iv_c (by decide) : IV 0 0 0) c16 (by decide)
              have ir38a := ir38.1; have ir38b := ir38.2
              exact J51 H locs ls  hH hS (lv_sub hl [] rfl)
      · skip
        have rlc5 : x4.toInt ≠ (0 : Int) := iv_ne c5
        have ir39 : IV x4 1 1 := iv_cutL ix4 (iv_c (by decide) : IV 0 0 0) c5 (by decide)
        have ir39a := ir39.1; have ir39b := ir39.2
        refine lv_iconst (v := 1) hx hb dX11_rankHere_22 (by decide) ?_
        exact th_iret S hK hH hS hr hlocks (th_R.i (iv_w (iv_c (by decide) : IV 1 1 1) (by decide))) dX11_rankHere_23
    · skip
      have rlc2 : x1.toInt ≠ (0 : Int) := iv_ne c2
      have ir40 : IV x1 1 1 := iv_cutL ix1 (iv_c (by decide) : IV 0 0 0) c2 (by decide)
      have ir40a := ir40.1; have ir40b := ir40.2
      refine lv_iconst (v := 2) hx hb dX11_rankHere_10 (by decide) ?_
      exact th_iret S hK hH hS hr hlocks (th_R.i (iv_w (iv_c (by decide) : IV 2 2 2) (by decide))) dX11_rankHere_11
  exact J0 s.heap [] ls hH va_S.rf hl
