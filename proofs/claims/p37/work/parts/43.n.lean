theorem dX11_isLetter_0 : decode cX11_isLetter 0 = .ok (.iload_n 0, 1) := by decide +kernel
theorem dX11_isLetter_1 : decode cX11_isLetter 1 = .ok (.bipush 97, 2) := by decide +kernel
theorem dX11_isLetter_3 : decode cX11_isLetter 3 = .ok (.if_icmp .lt 13, 3) := by decide +kernel
theorem dX11_isLetter_6 : decode cX11_isLetter 6 = .ok (.iload_n 0, 1) := by decide +kernel
theorem dX11_isLetter_7 : decode cX11_isLetter 7 = .ok (.bipush 122, 2) := by decide +kernel
theorem dX11_isLetter_9 : decode cX11_isLetter 9 = .ok (.if_icmp .gt 7, 3) := by decide +kernel
theorem dX11_isLetter_12 : decode cX11_isLetter 12 = .ok (.iconst 1, 1) := by decide +kernel
theorem dX11_isLetter_13 : decode cX11_isLetter 13 = .ok (.goto 4, 3) := by decide +kernel
theorem dX11_isLetter_16 : decode cX11_isLetter 16 = .ok (.iconst 0, 1) := by decide +kernel
theorem dX11_isLetter_17 : decode cX11_isLetter 17 = .ok (.ireturn, 1) := by decide +kernel
theorem dX11_isDigit_0 : decode cX11_isDigit 0 = .ok (.iload_n 0, 1) := by decide +kernel
theorem dX11_isDigit_1 : decode cX11_isDigit 1 = .ok (.bipush 48, 2) := by decide +kernel
theorem dX11_isDigit_3 : decode cX11_isDigit 3 = .ok (.if_icmp .lt 13, 3) := by decide +kernel
theorem dX11_isDigit_6 : decode cX11_isDigit 6 = .ok (.iload_n 0, 1) := by decide +kernel
theorem dX11_isDigit_7 : decode cX11_isDigit 7 = .ok (.bipush 57, 2) := by decide +kernel
theorem dX11_isDigit_9 : decode cX11_isDigit 9 = .ok (.if_icmp .gt 7, 3) := by decide +kernel
theorem dX11_isDigit_12 : decode cX11_isDigit 12 = .ok (.iconst 1, 1) := by decide +kernel
theorem dX11_isDigit_13 : decode cX11_isDigit 13 = .ok (.goto 4, 3) := by decide +kernel
theorem dX11_isDigit_16 : decode cX11_isDigit 16 = .ok (.iconst 0, 1) := by decide +kernel
theorem dX11_isDigit_17 : decode cX11_isDigit 17 = .ok (.ireturn, 1) := by decide +kernel
theorem dX11_many_0 : decode cX11_many 0 = .ok (.aload_n 0, 1) := by decide +kernel
theorem dX11_many_1 : decode cX11_many 1 = .ok (.getfield 24, 3) := by decide +kernel
theorem dX11_many_4 : decode cX11_many 4 = .ok (.aload_n 0, 1) := by decide +kernel
theorem dX11_many_5 : decode cX11_many 5 = .ok (.getfield 273, 3) := by decide +kernel
theorem dX11_many_8 : decode cX11_many 8 = .ok (.iaload, 1) := by decide +kernel
theorem dX11_many_9 : decode cX11_many 9 = .ok (.ireturn, 1) := by decide +kernel
theorem dX11_startAnew_0 : decode cX11_startAnew 0 = .ok (.iconst 0, 1) := by decide +kernel
theorem dX11_startAnew_1 : decode cX11_startAnew 1 = .ok (.istore_n 1, 1) := by decide +kernel
theorem dX11_startAnew_2 : decode cX11_startAnew 2 = .ok (.iload_n 1, 1) := by decide +kernel
theorem dX11_startAnew_3 : decode cX11_startAnew 3 = .ok (.bipush 43, 2) := by decide +kernel
theorem dX11_startAnew_5 : decode cX11_startAnew 5 = .ok (.if_icmp .ge 16, 3) := by decide +kernel
theorem dX11_startAnew_8 : decode cX11_startAnew 8 = .ok (.aload_n 0, 1) := by decide +kernel
theorem dX11_startAnew_9 : decode cX11_startAnew 9 = .ok (.getfield 113, 3) := by decide +kernel
theorem dX11_startAnew_12 : decode cX11_startAnew 12 = .ok (.iload_n 1, 1) := by decide +kernel
theorem dX11_startAnew_13 : decode cX11_startAnew 13 = .ok (.iconst 0, 1) := by decide +kernel
theorem dX11_startAnew_14 : decode cX11_startAnew 14 = .ok (.iastore, 1) := by decide +kernel
theorem dX11_startAnew_15 : decode cX11_startAnew 15 = .ok (.iinc 1 1, 3) := by decide +kernel
theorem dX11_startAnew_18 : decode cX11_startAnew 18 = .ok (.goto (-16), 3) := by decide +kernel
theorem dX11_startAnew_21 : decode cX11_startAnew 21 = .ok (.iconst 0, 1) := by decide +kernel
theorem dX11_startAnew_22 : decode cX11_startAnew 22 = .ok (.istore_n 1, 1) := by decide +kernel
theorem dX11_startAnew_23 : decode cX11_startAnew 23 = .ok (.iload_n 1, 1) := by decide +kernel
theorem dX11_startAnew_24 : decode cX11_startAnew 24 = .ok (.aload_n 0, 1) := by decide +kernel
theorem dX11_startAnew_25 : decode cX11_startAnew 25 = .ok (.getfield 20, 3) := by decide +kernel
theorem dX11_startAnew_28 : decode cX11_startAnew 28 = .ok (.aload_n 0, 1) := by decide +kernel
theorem dX11_startAnew_29 : decode cX11_startAnew 29 = .ok (.getfield 273, 3) := by decide +kernel
theorem dX11_startAnew_32 : decode cX11_startAnew 32 = .ok (.iaload, 1) := by decide +kernel
theorem dX11_startAnew_33 : decode cX11_startAnew 33 = .ok (.if_icmp .ge 30, 3) := by decide +kernel
theorem dX11_startAnew_36 : decode cX11_startAnew 36 = .ok (.aload_n 0, 1) := by decide +kernel
theorem dX11_startAnew_37 : decode cX11_startAnew 37 = .ok (.getfield 113, 3) := by decide +kernel
theorem dX11_startAnew_40 : decode cX11_startAnew 40 = .ok (.iconst 0, 1) := by decide +kernel
theorem dX11_startAnew_41 : decode cX11_startAnew 41 = .ok (.iload_n 1, 1) := by decide +kernel
theorem dX11_startAnew_42 : decode cX11_startAnew 42 = .ok (.iadd, 1) := by decide +kernel
theorem dX11_startAnew_43 : decode cX11_startAnew 43 = .ok (.aload_n 0, 1) := by decide +kernel
theorem dX11_startAnew_44 : decode cX11_startAnew 44 = .ok (.getfield 42, 3) := by decide +kernel
theorem dX11_startAnew_47 : decode cX11_startAnew 47 = .ok (.iconst 3, 1) := by decide +kernel
theorem dX11_startAnew_48 : decode cX11_startAnew 48 = .ok (.aload_n 0, 1) := by decide +kernel
theorem dX11_startAnew_49 : decode cX11_startAnew 49 = .ok (.getfield 273, 3) := by decide +kernel
theorem dX11_startAnew_52 : decode cX11_startAnew 52 = .ok (.imul, 1) := by decide +kernel
theorem dX11_startAnew_53 : decode cX11_startAnew 53 = .ok (.iload_n 1, 1) := by decide +kernel
theorem dX11_startAnew_54 : decode cX11_startAnew 54 = .ok (.iadd, 1) := by decide +kernel
theorem dX11_startAnew_55 : decode cX11_startAnew 55 = .ok (.iaload, 1) := by decide +kernel
theorem dX11_startAnew_56 : decode cX11_startAnew 56 = .ok (.iastore, 1) := by decide +kernel
theorem dX11_startAnew_57 : decode cX11_startAnew 57 = .ok (.iinc 1 1, 3) := by decide +kernel
theorem dX11_startAnew_60 : decode cX11_startAnew 60 = .ok (.goto (-37), 3) := by decide +kernel
theorem dX11_startAnew_63 : decode cX11_startAnew 63 = .ok (.iconst 0, 1) := by decide +kernel
theorem dX11_startAnew_64 : decode cX11_startAnew 64 = .ok (.istore_n 1, 1) := by decide +kernel
theorem dX11_startAnew_65 : decode cX11_startAnew 65 = .ok (.iload_n 1, 1) := by decide +kernel
theorem dX11_startAnew_66 : decode cX11_startAnew 66 = .ok (.aload_n 0, 1) := by decide +kernel
theorem dX11_startAnew_67 : decode cX11_startAnew 67 = .ok (.getfield 27, 3) := by decide +kernel
theorem dX11_startAnew_70 : decode cX11_startAnew 70 = .ok (.aload_n 0, 1) := by decide +kernel
theorem dX11_startAnew_71 : decode cX11_startAnew 71 = .ok (.getfield 273, 3) := by decide +kernel
theorem dX11_startAnew_74 : decode cX11_startAnew 74 = .ok (.iaload, 1) := by decide +kernel
theorem dX11_startAnew_75 : decode cX11_startAnew 75 = .ok (.if_icmp .ge 32, 3) := by decide +kernel
theorem dX11_startAnew_78 : decode cX11_startAnew 78 = .ok (.aload_n 0, 1) := by decide +kernel
theorem dX11_startAnew_79 : decode cX11_startAnew 79 = .ok (.getfield 113, 3) := by decide +kernel
theorem dX11_startAnew_82 : decode cX11_startAnew 82 = .ok (.bipush 15, 2) := by decide +kernel
theorem dX11_startAnew_84 : decode cX11_startAnew 84 = .ok (.iload_n 1, 1) := by decide +kernel
theorem dX11_startAnew_85 : decode cX11_startAnew 85 = .ok (.iadd, 1) := by decide +kernel
theorem dX11_startAnew_86 : decode cX11_startAnew 86 = .ok (.aload_n 0, 1) := by decide +kernel
theorem dX11_startAnew_87 : decode cX11_startAnew 87 = .ok (.getfield 57, 3) := by decide +kernel
theorem dX11_startAnew_90 : decode cX11_startAnew 90 = .ok (.bipush 8, 2) := by decide +kernel
theorem dX11_startAnew_92 : decode cX11_startAnew 92 = .ok (.aload_n 0, 1) := by decide +kernel
theorem dX11_startAnew_93 : decode cX11_startAnew 93 = .ok (.getfield 273, 3) := by decide +kernel
theorem dX11_startAnew_96 : decode cX11_startAnew 96 = .ok (.imul, 1) := by decide +kernel
theorem dX11_startAnew_97 : decode cX11_startAnew 97 = .ok (.iload_n 1, 1) := by decide +kernel
theorem dX11_startAnew_98 : decode cX11_startAnew 98 = .ok (.iadd, 1) := by decide +kernel
theorem dX11_startAnew_99 : decode cX11_startAnew 99 = .ok (.iaload, 1) := by decide +kernel
theorem dX11_startAnew_100 : decode cX11_startAnew 100 = .ok (.iastore, 1) := by decide +kernel
theorem dX11_startAnew_101 : decode cX11_startAnew 101 = .ok (.iinc 1 1, 3) := by decide +kernel
theorem dX11_startAnew_104 : decode cX11_startAnew 104 = .ok (.goto (-39), 3) := by decide +kernel
theorem dX11_startAnew_107 : decode cX11_startAnew 107 = .ok (.iconst 0, 1) := by decide +kernel
theorem dX11_startAnew_108 : decode cX11_startAnew 108 = .ok (.istore_n 1, 1) := by decide +kernel
theorem dX11_startAnew_109 : decode cX11_startAnew 109 = .ok (.iload_n 1, 1) := by decide +kernel
theorem dX11_startAnew_110 : decode cX11_startAnew 110 = .ok (.aload_n 0, 1) := by decide +kernel
theorem dX11_startAnew_111 : decode cX11_startAnew 111 = .ok (.invokevirtual 384, 3) := by decide +kernel
theorem dX11_startAnew_114 : decode cX11_startAnew 114 = .ok (.if_icmp .ge 31, 3) := by decide +kernel
theorem dX11_startAnew_117 : decode cX11_startAnew 117 = .ok (.aload_n 0, 1) := by decide +kernel
theorem dX11_startAnew_118 : decode cX11_startAnew 118 = .ok (.getfield 113, 3) := by decide +kernel
theorem dX11_startAnew_121 : decode cX11_startAnew 121 = .ok (.bipush 35, 2) := by decide +kernel
theorem dX11_startAnew_123 : decode cX11_startAnew 123 = .ok (.iload_n 1, 1) := by decide +kernel
theorem dX11_startAnew_124 : decode cX11_startAnew 124 = .ok (.iadd, 1) := by decide +kernel
theorem dX11_startAnew_125 : decode cX11_startAnew 125 = .ok (.aload_n 0, 1) := by decide +kernel
theorem dX11_startAnew_126 : decode cX11_startAnew 126 = .ok (.getfield 48, 3) := by decide +kernel
theorem dX11_startAnew_129 : decode cX11_startAnew 129 = .ok (.iconst 4, 1) := by decide +kernel
theorem dX11_startAnew_130 : decode cX11_startAnew 130 = .ok (.aload_n 0, 1) := by decide +kernel
theorem dX11_startAnew_131 : decode cX11_startAnew 131 = .ok (.getfield 273, 3) := by decide +kernel
theorem dX11_startAnew_134 : decode cX11_startAnew 134 = .ok (.imul, 1) := by decide +kernel
theorem dX11_startAnew_135 : decode cX11_startAnew 135 = .ok (.iload_n 1, 1) := by decide +kernel
theorem dX11_startAnew_136 : decode cX11_startAnew 136 = .ok (.iadd, 1) := by decide +kernel
theorem dX11_startAnew_137 : decode cX11_startAnew 137 = .ok (.iaload, 1) := by decide +kernel
theorem dX11_startAnew_138 : decode cX11_startAnew 138 = .ok (.iastore, 1) := by decide +kernel
theorem dX11_startAnew_139 : decode cX11_startAnew 139 = .ok (.iinc 1 1, 3) := by decide +kernel
theorem dX11_startAnew_142 : decode cX11_startAnew 142 = .ok (.goto (-33), 3) := by decide +kernel
theorem dX11_startAnew_145 : decode cX11_startAnew 145 = .ok (.aload_n 0, 1) := by decide +kernel
theorem dX11_startAnew_146 : decode cX11_startAnew 146 = .ok (.getfield 113, 3) := by decide +kernel
theorem dX11_startAnew_149 : decode cX11_startAnew 149 = .ok (.bipush 39, 2) := by decide +kernel
theorem dX11_startAnew_151 : decode cX11_startAnew 151 = .ok (.aload_n 0, 1) := by decide +kernel
theorem dX11_startAnew_152 : decode cX11_startAnew 152 = .ok (.getfield 51, 3) := by decide +kernel
theorem dX11_startAnew_155 : decode cX11_startAnew 155 = .ok (.aload_n 0, 1) := by decide +kernel
theorem dX11_startAnew_156 : decode cX11_startAnew 156 = .ok (.getfield 273, 3) := by decide +kernel
theorem dX11_startAnew_159 : decode cX11_startAnew 159 = .ok (.iaload, 1) := by decide +kernel
theorem dX11_startAnew_160 : decode cX11_startAnew 160 = .ok (.iastore, 1) := by decide +kernel
theorem dX11_startAnew_161 : decode cX11_startAnew 161 = .ok (.aload_n 0, 1) := by decide +kernel
theorem dX11_startAnew_162 : decode cX11_startAnew 162 = .ok (.getfield 113, 3) := by decide +kernel
theorem dX11_startAnew_165 : decode cX11_startAnew 165 = .ok (.bipush 41, 2) := by decide +kernel
theorem dX11_startAnew_167 : decode cX11_startAnew 167 = .ok (.aload_n 0, 1) := by decide +kernel
theorem dX11_startAnew_168 : decode cX11_startAnew 168 = .ok (.getfield 82, 3) := by decide +kernel
theorem dX11_startAnew_171 : decode cX11_startAnew 171 = .ok (.aload_n 0, 1) := by decide +kernel
theorem dX11_startAnew_172 : decode cX11_startAnew 172 = .ok (.getfield 273, 3) := by decide +kernel
theorem dX11_startAnew_175 : decode cX11_startAnew 175 = .ok (.baload, 1) := by decide +kernel
theorem dX11_startAnew_176 : decode cX11_startAnew 176 = .ok (.ifCond .eq 7, 3) := by decide +kernel
theorem dX11_startAnew_179 : decode cX11_startAnew 179 = .ok (.iconst 1, 1) := by decide +kernel
theorem dX11_startAnew_180 : decode cX11_startAnew 180 = .ok (.goto 4, 3) := by decide +kernel
theorem dX11_startAnew_183 : decode cX11_startAnew 183 = .ok (.iconst 0, 1) := by decide +kernel
theorem dX11_startAnew_184 : decode cX11_startAnew 184 = .ok (.iastore, 1) := by decide +kernel
theorem dX11_startAnew_185 : decode cX11_startAnew 185 = .ok (.aload_n 0, 1) := by decide +kernel
theorem dX11_startAnew_186 : decode cX11_startAnew 186 = .ok (.getfield 113, 3) := by decide +kernel
theorem dX11_startAnew_189 : decode cX11_startAnew 189 = .ok (.bipush 42, 2) := by decide +kernel
theorem dX11_startAnew_191 : decode cX11_startAnew 191 = .ok (.aload_n 0, 1) := by decide +kernel
theorem dX11_startAnew_192 : decode cX11_startAnew 192 = .ok (.getfield 39, 3) := by decide +kernel
theorem dX11_startAnew_195 : decode cX11_startAnew 195 = .ok (.aload_n 0, 1) := by decide +kernel
theorem dX11_startAnew_196 : decode cX11_startAnew 196 = .ok (.getfield 273, 3) := by decide +kernel
theorem dX11_startAnew_199 : decode cX11_startAnew 199 = .ok (.iaload, 1) := by decide +kernel
theorem dX11_startAnew_200 : decode cX11_startAnew 200 = .ok (.iastore, 1) := by decide +kernel
theorem dX11_startAnew_201 : decode cX11_startAnew 201 = .ok (.aload_n 0, 1) := by decide +kernel
theorem dX11_startAnew_202 : decode cX11_startAnew 202 = .ok (.iconst 0, 1) := by decide +kernel
theorem dX11_startAnew_203 : decode cX11_startAnew 203 = .ok (.putfield 395, 3) := by decide +kernel
theorem dX11_startAnew_206 : decode cX11_startAnew 206 = .ok (.aload_n 0, 1) := by decide +kernel
theorem dX11_startAnew_207 : decode cX11_startAnew 207 = .ok (.iconst 0, 1) := by decide +kernel
theorem dX11_startAnew_208 : decode cX11_startAnew 208 = .ok (.putfield 398, 3) := by decide +kernel
theorem dX11_startAnew_211 : decode cX11_startAnew 211 = .ok (.aload_n 0, 1) := by decide +kernel
theorem dX11_startAnew_212 : decode cX11_startAnew 212 = .ok (.iconst 0, 1) := by decide +kernel
theorem dX11_startAnew_213 : decode cX11_startAnew 213 = .ok (.putfield 401, 3) := by decide +kernel
theorem dX11_startAnew_216 : decode cX11_startAnew 216 = .ok (.aload_n 0, 1) := by decide +kernel
theorem dX11_startAnew_217 : decode cX11_startAnew 217 = .ok (.iconst 0, 1) := by decide +kernel
theorem dX11_startAnew_218 : decode cX11_startAnew 218 = .ok (.putfield 404, 3) := by decide +kernel
theorem dX11_startAnew_221 : decode cX11_startAnew 221 = .ok (.iconst 0, 1) := by decide +kernel
theorem dX11_startAnew_222 : decode cX11_startAnew 222 = .ok (.istore_n 1, 1) := by decide +kernel
theorem dX11_startAnew_223 : decode cX11_startAnew 223 = .ok (.iload_n 1, 1) := by decide +kernel
theorem dX11_startAnew_224 : decode cX11_startAnew 224 = .ok (.iconst 3, 1) := by decide +kernel
theorem dX11_startAnew_225 : decode cX11_startAnew 225 = .ok (.if_icmp .ge 16, 3) := by decide +kernel
theorem dX11_startAnew_228 : decode cX11_startAnew 228 = .ok (.aload_n 0, 1) := by decide +kernel
theorem dX11_startAnew_229 : decode cX11_startAnew 229 = .ok (.getfield 146, 3) := by decide +kernel
theorem dX11_startAnew_232 : decode cX11_startAnew 232 = .ok (.iload_n 1, 1) := by decide +kernel
theorem dX11_startAnew_233 : decode cX11_startAnew 233 = .ok (.iconst 0, 1) := by decide +kernel
theorem dX11_startAnew_234 : decode cX11_startAnew 234 = .ok (.bastore, 1) := by decide +kernel
theorem dX11_startAnew_235 : decode cX11_startAnew 235 = .ok (.iinc 1 1, 3) := by decide +kernel
theorem dX11_startAnew_238 : decode cX11_startAnew 238 = .ok (.goto (-15), 3) := by decide +kernel
theorem dX11_startAnew_241 : decode cX11_startAnew 241 = .ok (.return_, 1) := by decide +kernel
theorem dX11_two_0 : decode cX11_two 0 = .ok (.iload_n 0, 1) := by decide +kernel
theorem dX11_two_1 : decode cX11_two 1 = .ok (.tableswitch 202 37 62 #[143, 188, 202, 202, 202, 127, 119, 202, 123, 202, 131, 202, 202, 202, 202, 202, 202, 202, 202, 202, 202, 202, 202, 155, 177, 166], 119) := by decide +kernel
theorem dX11_two_120 : decode cX11_two 120 = .ok (.iload_n 1, 1) := by decide +kernel
theorem dX11_two_121 : decode cX11_two 121 = .ok (.iload_n 2, 1) := by decide +kernel
theorem dX11_two_122 : decode cX11_two 122 = .ok (.iadd, 1) := by decide +kernel
theorem dX11_two_123 : decode cX11_two 123 = .ok (.ireturn, 1) := by decide +kernel
theorem dX11_two_124 : decode cX11_two 124 = .ok (.iload_n 1, 1) := by decide +kernel
theorem dX11_two_125 : decode cX11_two 125 = .ok (.iload_n 2, 1) := by decide +kernel
theorem dX11_two_126 : decode cX11_two 126 = .ok (.isub, 1) := by decide +kernel
theorem dX11_two_127 : decode cX11_two 127 = .ok (.ireturn, 1) := by decide +kernel
theorem dX11_two_128 : decode cX11_two 128 = .ok (.iload_n 1, 1) := by decide +kernel
theorem dX11_two_129 : decode cX11_two 129 = .ok (.iload_n 2, 1) := by decide +kernel
theorem dX11_two_130 : decode cX11_two 130 = .ok (.imul, 1) := by decide +kernel
theorem dX11_two_131 : decode cX11_two 131 = .ok (.ireturn, 1) := by decide +kernel
theorem dX11_two_132 : decode cX11_two 132 = .ok (.iload_n 2, 1) := by decide +kernel
theorem dX11_two_133 : decode cX11_two 133 = .ok (.ifCond .ne 7, 3) := by decide +kernel
theorem dX11_two_136 : decode cX11_two 136 = .ok (.iconst 0, 1) := by decide +kernel
theorem dX11_two_137 : decode cX11_two 137 = .ok (.goto 6, 3) := by decide +kernel
theorem dX11_two_140 : decode cX11_two 140 = .ok (.iload_n 1, 1) := by decide +kernel
theorem dX11_two_141 : decode cX11_two 141 = .ok (.iload_n 2, 1) := by decide +kernel
theorem dX11_two_142 : decode cX11_two 142 = .ok (.idiv, 1) := by decide +kernel
theorem dX11_two_143 : decode cX11_two 143 = .ok (.ireturn, 1) := by decide +kernel
theorem dX11_two_144 : decode cX11_two 144 = .ok (.iload_n 2, 1) := by decide +kernel
theorem dX11_two_145 : decode cX11_two 145 = .ok (.ifCond .ne 7, 3) := by decide +kernel
theorem dX11_two_148 : decode cX11_two 148 = .ok (.iconst 0, 1) := by decide +kernel
theorem dX11_two_149 : decode cX11_two 149 = .ok (.goto 6, 3) := by decide +kernel
theorem dX11_two_152 : decode cX11_two 152 = .ok (.iload_n 1, 1) := by decide +kernel
theorem dX11_two_153 : decode cX11_two 153 = .ok (.iload_n 2, 1) := by decide +kernel
theorem dX11_two_154 : decode cX11_two 154 = .ok (.irem, 1) := by decide +kernel
theorem dX11_two_155 : decode cX11_two 155 = .ok (.ireturn, 1) := by decide +kernel
theorem dX11_two_156 : decode cX11_two 156 = .ok (.iload_n 1, 1) := by decide +kernel
theorem dX11_two_157 : decode cX11_two 157 = .ok (.iload_n 2, 1) := by decide +kernel
theorem dX11_two_158 : decode cX11_two 158 = .ok (.if_icmp .ge 7, 3) := by decide +kernel
theorem dX11_two_161 : decode cX11_two 161 = .ok (.iconst 1, 1) := by decide +kernel
theorem dX11_two_162 : decode cX11_two 162 = .ok (.goto 4, 3) := by decide +kernel
theorem dX11_two_165 : decode cX11_two 165 = .ok (.iconst 0, 1) := by decide +kernel
theorem dX11_two_166 : decode cX11_two 166 = .ok (.ireturn, 1) := by decide +kernel
theorem dX11_two_167 : decode cX11_two 167 = .ok (.iload_n 1, 1) := by decide +kernel
theorem dX11_two_168 : decode cX11_two 168 = .ok (.iload_n 2, 1) := by decide +kernel
theorem dX11_two_169 : decode cX11_two 169 = .ok (.if_icmp .le 7, 3) := by decide +kernel
theorem dX11_two_172 : decode cX11_two 172 = .ok (.iconst 1, 1) := by decide +kernel
theorem dX11_two_173 : decode cX11_two 173 = .ok (.goto 4, 3) := by decide +kernel
theorem dX11_two_176 : decode cX11_two 176 = .ok (.iconst 0, 1) := by decide +kernel
theorem dX11_two_177 : decode cX11_two 177 = .ok (.ireturn, 1) := by decide +kernel
theorem dX11_two_178 : decode cX11_two 178 = .ok (.iload_n 1, 1) := by decide +kernel
theorem dX11_two_179 : decode cX11_two 179 = .ok (.iload_n 2, 1) := by decide +kernel
theorem dX11_two_180 : decode cX11_two 180 = .ok (.if_icmp .ne 7, 3) := by decide +kernel
theorem dX11_two_183 : decode cX11_two 183 = .ok (.iconst 1, 1) := by decide +kernel
theorem dX11_two_184 : decode cX11_two 184 = .ok (.goto 4, 3) := by decide +kernel
theorem dX11_two_187 : decode cX11_two 187 = .ok (.iconst 0, 1) := by decide +kernel
theorem dX11_two_188 : decode cX11_two 188 = .ok (.ireturn, 1) := by decide +kernel
theorem dX11_two_189 : decode cX11_two 189 = .ok (.iload_n 1, 1) := by decide +kernel
theorem dX11_two_190 : decode cX11_two 190 = .ok (.ifCond .eq 11, 3) := by decide +kernel
theorem dX11_two_193 : decode cX11_two 193 = .ok (.iload_n 2, 1) := by decide +kernel
theorem dX11_two_194 : decode cX11_two 194 = .ok (.ifCond .eq 7, 3) := by decide +kernel
theorem dX11_two_197 : decode cX11_two 197 = .ok (.iconst 1, 1) := by decide +kernel
theorem dX11_two_198 : decode cX11_two 198 = .ok (.goto 4, 3) := by decide +kernel
theorem dX11_two_201 : decode cX11_two 201 = .ok (.iconst 0, 1) := by decide +kernel
theorem dX11_two_202 : decode cX11_two 202 = .ok (.ireturn, 1) := by decide +kernel
theorem dX11_two_203 : decode cX11_two 203 = .ok (.iload_n 1, 1) := by decide +kernel
theorem dX11_two_204 : decode cX11_two 204 = .ok (.ifCond .ne 7, 3) := by decide +kernel
theorem dX11_two_207 : decode cX11_two 207 = .ok (.iload_n 2, 1) := by decide +kernel
theorem dX11_two_208 : decode cX11_two 208 = .ok (.ifCond .eq 7, 3) := by decide +kernel
theorem dX11_two_211 : decode cX11_two 211 = .ok (.iconst 1, 1) := by decide +kernel
theorem dX11_two_212 : decode cX11_two 212 = .ok (.goto 4, 3) := by decide +kernel
theorem dX11_two_215 : decode cX11_two 215 = .ok (.iconst 0, 1) := by decide +kernel
theorem dX11_two_216 : decode cX11_two 216 = .ok (.ireturn, 1) := by decide +kernel
theorem dX11_asked_0 : decode cX11_asked 0 = .ok (.iload_n 1, 1) := by decide +kernel
theorem dX11_asked_1 : decode cX11_asked 1 = .ok (.tableswitch 152 99 122 #[129, 152, 124, 152, 152, 147, 152, 152, 152, 152, 152, 152, 152, 152, 152, 152, 111, 152, 152, 152, 142, 152, 116, 137], 111) := by decide +kernel
theorem dX11_asked_112 : decode cX11_asked 112 = .ok (.aload_n 0, 1) := by decide +kernel
theorem dX11_asked_113 : decode cX11_asked 113 = .ok (.getfield 362, 3) := by decide +kernel
theorem dX11_asked_116 : decode cX11_asked 116 = .ok (.ireturn, 1) := by decide +kernel
theorem dX11_asked_117 : decode cX11_asked 117 = .ok (.aload_n 0, 1) := by decide +kernel
theorem dX11_asked_118 : decode cX11_asked 118 = .ok (.getfield 113, 3) := by decide +kernel
theorem dX11_asked_121 : decode cX11_asked 121 = .ok (.bipush 40, 2) := by decide +kernel
theorem dX11_asked_123 : decode cX11_asked 123 = .ok (.iaload, 1) := by decide +kernel
theorem dX11_asked_124 : decode cX11_asked 124 = .ok (.ireturn, 1) := by decide +kernel
theorem dX11_asked_125 : decode cX11_asked 125 = .ok (.aload_n 0, 1) := by decide +kernel
theorem dX11_asked_126 : decode cX11_asked 126 = .ok (.getfield 365, 3) := by decide +kernel
theorem dX11_asked_129 : decode cX11_asked 129 = .ok (.ireturn, 1) := by decide +kernel
theorem dX11_asked_130 : decode cX11_asked 130 = .ok (.aload_n 0, 1) := by decide +kernel
theorem dX11_asked_131 : decode cX11_asked 131 = .ok (.getfield 113, 3) := by decide +kernel
theorem dX11_asked_134 : decode cX11_asked 134 = .ok (.bipush 41, 2) := by decide +kernel
theorem dX11_asked_136 : decode cX11_asked 136 = .ok (.iaload, 1) := by decide +kernel
theorem dX11_asked_137 : decode cX11_asked 137 = .ok (.ireturn, 1) := by decide +kernel
theorem dX11_asked_138 : decode cX11_asked 138 = .ok (.aload_n 0, 1) := by decide +kernel
theorem dX11_asked_139 : decode cX11_asked 139 = .ok (.getfield 368, 3) := by decide +kernel
theorem dX11_asked_142 : decode cX11_asked 142 = .ok (.ireturn, 1) := by decide +kernel
theorem dX11_asked_143 : decode cX11_asked 143 = .ok (.aload_n 0, 1) := by decide +kernel
theorem dX11_asked_144 : decode cX11_asked 144 = .ok (.getfield 371, 3) := by decide +kernel
theorem dX11_asked_147 : decode cX11_asked 147 = .ok (.ireturn, 1) := by decide +kernel
theorem dX11_asked_148 : decode cX11_asked 148 = .ok (.aload_n 0, 1) := by decide +kernel
theorem dX11_asked_149 : decode cX11_asked 149 = .ok (.getfield 374, 3) := by decide +kernel
theorem dX11_asked_152 : decode cX11_asked 152 = .ok (.ireturn, 1) := by decide +kernel
theorem dX11_asked_153 : decode cX11_asked 153 = .ok (.iload_n 2, 1) := by decide +kernel
theorem dX11_asked_154 : decode cX11_asked 154 = .ok (.ireturn, 1) := by decide +kernel
theorem dX11_comes_0 : decode cX11_comes 0 = .ok (.iconst 0, 1) := by decide +kernel
theorem dX11_comes_1 : decode cX11_comes 1 = .ok (.istore_n 2, 1) := by decide +kernel
theorem dX11_comes_2 : decode cX11_comes 2 = .ok (.aload_n 0, 1) := by decide +kernel
theorem dX11_comes_3 : decode cX11_comes 3 = .ok (.getfield 72, 3) := by decide +kernel
theorem dX11_comes_6 : decode cX11_comes 6 = .ok (.iconst 5, 1) := by decide +kernel
theorem dX11_comes_7 : decode cX11_comes 7 = .ok (.aload_n 0, 1) := by decide +kernel
theorem dX11_comes_8 : decode cX11_comes 8 = .ok (.getfield 273, 3) := by decide +kernel
theorem dX11_comes_11 : decode cX11_comes 11 = .ok (.imul, 1) := by decide +kernel
theorem dX11_comes_12 : decode cX11_comes 12 = .ok (.iload_n 1, 1) := by decide +kernel
theorem dX11_comes_13 : decode cX11_comes 13 = .ok (.iadd, 1) := by decide +kernel
theorem dX11_comes_14 : decode cX11_comes 14 = .ok (.iaload, 1) := by decide +kernel
theorem dX11_comes_15 : decode cX11_comes 15 = .ok (.istore_n 3, 1) := by decide +kernel
theorem dX11_comes_16 : decode cX11_comes 16 = .ok (.iload_n 3, 1) := by decide +kernel
theorem dX11_comes_17 : decode cX11_comes 17 = .ok (.aload_n 0, 1) := by decide +kernel
theorem dX11_comes_18 : decode cX11_comes 18 = .ok (.getfield 75, 3) := by decide +kernel
theorem dX11_comes_21 : decode cX11_comes 21 = .ok (.iconst 5, 1) := by decide +kernel
theorem dX11_comes_22 : decode cX11_comes 22 = .ok (.aload_n 0, 1) := by decide +kernel
theorem dX11_comes_23 : decode cX11_comes 23 = .ok (.getfield 273, 3) := by decide +kernel
theorem dX11_comes_26 : decode cX11_comes 26 = .ok (.imul, 1) := by decide +kernel
theorem dX11_comes_27 : decode cX11_comes 27 = .ok (.iload_n 1, 1) := by decide +kernel
theorem dX11_comes_28 : decode cX11_comes 28 = .ok (.iadd, 1) := by decide +kernel
theorem dX11_comes_29 : decode cX11_comes 29 = .ok (.iaload, 1) := by decide +kernel
theorem dX11_comes_30 : decode cX11_comes 30 = .ok (.if_icmp .ge 113, 3) := by decide +kernel
theorem dX11_comes_33 : decode cX11_comes 33 = .ok (.aload_n 0, 1) := by decide +kernel
theorem dX11_comes_34 : decode cX11_comes 34 = .ok (.getfield 98, 3) := by decide +kernel
theorem dX11_comes_37 : decode cX11_comes 37 = .ok (.iload_n 3, 1) := by decide +kernel
theorem dX11_comes_38 : decode cX11_comes 38 = .ok (.iaload, 1) := by decide +kernel
theorem dX11_comes_39 : decode cX11_comes 39 = .ok (.istore 4, 2) := by decide +kernel
theorem dX11_comes_41 : decode cX11_comes 41 = .ok (.iload 4, 2) := by decide +kernel
theorem dX11_comes_43 : decode cX11_comes 43 = .ok (.bipush 126, 2) := by decide +kernel
theorem dX11_comes_45 : decode cX11_comes 45 = .ok (.if_icmp .ne 30, 3) := by decide +kernel
theorem dX11_comes_48 : decode cX11_comes 48 = .ok (.aload_n 0, 1) := by decide +kernel
theorem dX11_comes_49 : decode cX11_comes 49 = .ok (.getfield 110, 3) := by decide +kernel
theorem dX11_comes_52 : decode cX11_comes 52 = .ok (.iload_n 2, 1) := by decide +kernel
theorem dX11_comes_53 : decode cX11_comes 53 = .ok (.iconst 1, 1) := by decide +kernel
theorem dX11_comes_54 : decode cX11_comes 54 = .ok (.isub, 1) := by decide +kernel
theorem dX11_comes_55 : decode cX11_comes 55 = .ok (.aload_n 0, 1) := by decide +kernel
theorem dX11_comes_56 : decode cX11_comes 56 = .ok (.getfield 110, 3) := by decide +kernel
theorem dX11_comes_59 : decode cX11_comes 59 = .ok (.iload_n 2, 1) := by decide +kernel
theorem dX11_comes_60 : decode cX11_comes 60 = .ok (.iconst 1, 1) := by decide +kernel
theorem dX11_comes_61 : decode cX11_comes 61 = .ok (.isub, 1) := by decide +kernel
theorem dX11_comes_62 : decode cX11_comes 62 = .ok (.iaload, 1) := by decide +kernel
theorem dX11_comes_63 : decode cX11_comes 63 = .ok (.ifCond .ne 7, 3) := by decide +kernel
theorem dX11_comes_66 : decode cX11_comes 66 = .ok (.iconst 1, 1) := by decide +kernel
theorem dX11_comes_67 : decode cX11_comes 67 = .ok (.goto 4, 3) := by decide +kernel
theorem dX11_comes_70 : decode cX11_comes 70 = .ok (.iconst 0, 1) := by decide +kernel
theorem dX11_comes_71 : decode cX11_comes 71 = .ok (.iastore, 1) := by decide +kernel
theorem dX11_comes_72 : decode cX11_comes 72 = .ok (.goto 65, 3) := by decide +kernel
theorem dX11_comes_75 : decode cX11_comes 75 = .ok (.iload 4, 2) := by decide +kernel
theorem dX11_comes_77 : decode cX11_comes 77 = .ok (.invokestatic 218, 3) := by decide +kernel
theorem dX11_comes_80 : decode cX11_comes 80 = .ok (.ifCond .eq 27, 3) := by decide +kernel
theorem dX11_comes_83 : decode cX11_comes 83 = .ok (.aload_n 0, 1) := by decide +kernel
theorem dX11_comes_84 : decode cX11_comes 84 = .ok (.getfield 110, 3) := by decide +kernel
theorem dX11_comes_87 : decode cX11_comes 87 = .ok (.iload_n 2, 1) := by decide +kernel
theorem dX11_comes_88 : decode cX11_comes 88 = .ok (.aload_n 0, 1) := by decide +kernel
theorem dX11_comes_89 : decode cX11_comes 89 = .ok (.iload 4, 2) := by decide +kernel
theorem dX11_comes_91 : decode cX11_comes 91 = .ok (.aload_n 0, 1) := by decide +kernel
theorem dX11_comes_92 : decode cX11_comes 92 = .ok (.getfield 101, 3) := by decide +kernel
theorem dX11_comes_95 : decode cX11_comes 95 = .ok (.iload_n 3, 1) := by decide +kernel
theorem dX11_comes_96 : decode cX11_comes 96 = .ok (.iaload, 1) := by decide +kernel
theorem dX11_comes_97 : decode cX11_comes 97 = .ok (.invokevirtual 377, 3) := by decide +kernel
theorem dX11_comes_100 : decode cX11_comes 100 = .ok (.iastore, 1) := by decide +kernel
theorem dX11_comes_101 : decode cX11_comes 101 = .ok (.iinc 2 1, 3) := by decide +kernel
theorem dX11_comes_104 : decode cX11_comes 104 = .ok (.goto 33, 3) := by decide +kernel
theorem dX11_comes_107 : decode cX11_comes 107 = .ok (.iinc 2 (-1), 3) := by decide +kernel
theorem dX11_comes_110 : decode cX11_comes 110 = .ok (.aload_n 0, 1) := by decide +kernel
theorem dX11_comes_111 : decode cX11_comes 111 = .ok (.getfield 110, 3) := by decide +kernel
theorem dX11_comes_114 : decode cX11_comes 114 = .ok (.iload_n 2, 1) := by decide +kernel
theorem dX11_comes_115 : decode cX11_comes 115 = .ok (.iconst 1, 1) := by decide +kernel
theorem dX11_comes_116 : decode cX11_comes 116 = .ok (.isub, 1) := by decide +kernel
theorem dX11_comes_117 : decode cX11_comes 117 = .ok (.iload 4, 2) := by decide +kernel
theorem dX11_comes_119 : decode cX11_comes 119 = .ok (.aload_n 0, 1) := by decide +kernel
theorem dX11_comes_120 : decode cX11_comes 120 = .ok (.getfield 110, 3) := by decide +kernel
theorem dX11_comes_123 : decode cX11_comes 123 = .ok (.iload_n 2, 1) := by decide +kernel
theorem dX11_comes_124 : decode cX11_comes 124 = .ok (.iconst 1, 1) := by decide +kernel
theorem dX11_comes_125 : decode cX11_comes 125 = .ok (.isub, 1) := by decide +kernel
theorem dX11_comes_126 : decode cX11_comes 126 = .ok (.iaload, 1) := by decide +kernel
theorem dX11_comes_127 : decode cX11_comes 127 = .ok (.aload_n 0, 1) := by decide +kernel
theorem dX11_comes_128 : decode cX11_comes 128 = .ok (.getfield 110, 3) := by decide +kernel
theorem dX11_comes_131 : decode cX11_comes 131 = .ok (.iload_n 2, 1) := by decide +kernel
theorem dX11_comes_132 : decode cX11_comes 132 = .ok (.iaload, 1) := by decide +kernel
theorem dX11_comes_133 : decode cX11_comes 133 = .ok (.invokestatic 380, 3) := by decide +kernel
theorem dX11_comes_136 : decode cX11_comes 136 = .ok (.iastore, 1) := by decide +kernel
theorem dX11_comes_137 : decode cX11_comes 137 = .ok (.iinc 3 1, 3) := by decide +kernel
theorem dX11_comes_140 : decode cX11_comes 140 = .ok (.goto (-124), 3) := by decide +kernel
theorem dX11_comes_143 : decode cX11_comes 143 = .ok (.aload_n 0, 1) := by decide +kernel
theorem dX11_comes_144 : decode cX11_comes 144 = .ok (.getfield 110, 3) := by decide +kernel
theorem dX11_comes_147 : decode cX11_comes 147 = .ok (.iconst 0, 1) := by decide +kernel
theorem dX11_comes_148 : decode cX11_comes 148 = .ok (.iaload, 1) := by decide +kernel
theorem dX11_comes_149 : decode cX11_comes 149 = .ok (.ireturn, 1) := by decide +kernel
theorem dX11_fault_0 : decode cX11_fault 0 = .ok (.iload_n 1, 1) := by decide +kernel
theorem dX11_fault_1 : decode cX11_fault 1 = .ok (.ifCond .ne 10, 3) := by decide +kernel
theorem dX11_fault_4 : decode cX11_fault 4 = .ok (.aload_n 0, 1) := by decide +kernel
theorem dX11_fault_5 : decode cX11_fault 5 = .ok (.getfield 158, 3) := by decide +kernel
theorem dX11_fault_8 : decode cX11_fault 8 = .ok (.goto 16, 3) := by decide +kernel
theorem dX11_fault_11 : decode cX11_fault 11 = .ok (.iload_n 1, 1) := by decide +kernel
theorem dX11_fault_12 : decode cX11_fault 12 = .ok (.iconst 1, 1) := by decide +kernel
theorem dX11_fault_13 : decode cX11_fault 13 = .ok (.if_icmp .ne 10, 3) := by decide +kernel
theorem dX11_fault_16 : decode cX11_fault 16 = .ok (.aload_n 0, 1) := by decide +kernel
theorem dX11_fault_17 : decode cX11_fault 17 = .ok (.getfield 16, 3) := by decide +kernel
theorem dX11_fault_20 : decode cX11_fault 20 = .ok (.goto 4, 3) := by decide +kernel
theorem dX11_fault_23 : decode cX11_fault 23 = .ok (.iconst (-1), 1) := by decide +kernel
theorem dX11_fault_24 : decode cX11_fault 24 = .ok (.ireturn, 1) := by decide +kernel
theorem dX11_isIn_0 : decode cX11_isIn 0 = .ok (.iload_n 0, 1) := by decide +kernel
theorem dX11_isIn_1 : decode cX11_isIn 1 = .ok (.iload_n 1, 1) := by decide +kernel
theorem dX11_isIn_2 : decode cX11_isIn 2 = .ok (.if_icmp .lt 12, 3) := by decide +kernel
theorem dX11_isIn_5 : decode cX11_isIn 5 = .ok (.iload_n 0, 1) := by decide +kernel
theorem dX11_isIn_6 : decode cX11_isIn 6 = .ok (.iload_n 2, 1) := by decide +kernel
theorem dX11_isIn_7 : decode cX11_isIn 7 = .ok (.if_icmp .gt 7, 3) := by decide +kernel
theorem dX11_isIn_10 : decode cX11_isIn 10 = .ok (.iconst 1, 1) := by decide +kernel
theorem dX11_isIn_11 : decode cX11_isIn 11 = .ok (.goto 4, 3) := by decide +kernel
theorem dX11_isIn_14 : decode cX11_isIn 14 = .ok (.iconst 0, 1) := by decide +kernel
theorem dX11_isIn_15 : decode cX11_isIn 15 = .ok (.ireturn, 1) := by decide +kernel
set_option maxRecDepth 100000 in
theorem m_X11_isLetter (l : Launch) (D : va_G) (cT : Nat → ClassId) (T : Nat → Option Nat) (q : Nat → Int) (hT : tokm T) (hq : qkm q) (y0 : Int32) (j0 : IV y0 (-2147483648) 2147483647) : th_Met l D cT T (km q) yX11_isLetter cX11_isLetter 1 (some .boolean) (rmk 0 0) [.int y0] (th_RP 0 1 (fun r => (r.toInt ≠ 0 → 97 ≤ y0.toInt ∧ y0.toInt ≤ 122) ∧ (r.toInt = 0 → y0.toInt < 97 ∨ 122 < y0.toInt))) [] := by
  refine th_start (by decide) (Nat.le_of_ble_eq_true rfl) ?_
  intro p e s m below meth c ls S hK hH hr hlocks hnm hl
  have hx := S.1
  have hb := S.2.1
  have hl : lv_has ls 1 [(0, .int y0)] := hl
  have J17_s0_0 : ∀ (H : Heap) (locs : List Loc) (ls : Array Slot), ((0 : Int) ≠ 0 → 97 ≤ y0.toInt ∧ y0.toInt ≤ 122) → ((0 : Int) = 0 → y0.toInt < 97 ∨ 122 < y0.toInt) → th_H D cT T (km q) H → va_S (th_A T []) s.heap H locs → lv_has ls 1 [] → W p l e (rmk 0 0) s m [.int y0].toArray below meth c H locs 0 0 (MQ below (th_Q D cT T (km q) (th_RP 0 1 (fun r => (r.toInt ≠ 0 → 97 ≤ y0.toInt ∧ y0.toInt ≤ 122) ∧ (r.toInt = 0 → y0.toInt < 97 ∨ 122 < y0.toInt))) []) [.int y0].toArray s 0 0 (th_A T [])) (F0 m 17 ls [.int 0]) := by
    intro H locs ls v17_inv0 v17_inv1 hH hS hl
    exact th_zret S hK hH hS hr hlocks (iv_w (iv_c (by decide) : IV 0 0 0) (by decide)) (th_RP.i (iv_w (iv_c (by decide) : IV 0 0 0) (by decide)) ⟨(show (0 : Int) ≠ 0 → 97 ≤ y0.toInt ∧ y0.toInt ≤ 122 by first | assumption | (first | omega | (intro z; omega))), (show (0 : Int) = 0 → y0.toInt < 97 ∨ 122 < y0.toInt by first | assumption | (first | omega | (intro z; omega)))⟩) dX11_isLetter_17
  have J17_s0_1 : ∀ (H : Heap) (locs : List Loc) (ls : Array Slot), ((1 : Int) ≠ 0 → 97 ≤ y0.toInt ∧ y0.toInt ≤ 122) → ((1 : Int) = 0 → y0.toInt < 97 ∨ 122 < y0.toInt) → th_H D cT T (km q) H → va_S (th_A T []) s.heap H locs → lv_has ls 1 [] → W p l e (rmk 0 0) s m [.int y0].toArray below meth c H locs 0 0 (MQ below (th_Q D cT T (km q) (th_RP 0 1 (fun r => (r.toInt ≠ 0 → 97 ≤ y0.toInt ∧ y0.toInt ≤ 122) ∧ (r.toInt = 0 → y0.toInt < 97 ∨ 122 < y0.toInt))) []) [.int y0].toArray s 0 0 (th_A T [])) (F0 m 17 ls [.int 1]) := by
    intro H locs ls v17_inv0 v17_inv1 hH hS hl
    exact th_zret S hK hH hS hr hlocks (iv_w (iv_c (by decide) : IV 1 1 1) (by decide)) (th_RP.i (iv_w (iv_c (by decide) : IV 1 1 1) (by decide)) ⟨(show (1 : Int) ≠ 0 → 97 ≤ y0.toInt ∧ y0.toInt ≤ 122 by first | assumption | (first | omega | (intro z; omega))), (show (1 : Int) = 0 → y0.toInt < 97 ∨ 122 < y0.toInt by first | assumption | (first | omega | (intro z; omega)))⟩) dX11_isLetter_17
  have J16 : ∀ (H : Heap) (locs : List Loc) (ls : Array Slot), (y0.toInt < 97 ∨ 122 < y0.toInt) → th_H D cT T (km q) H → va_S (th_A T []) s.heap H locs → lv_has ls 1 [] → W p l e (rmk 0 0) s m [.int y0].toArray below meth c H locs 0 0 (MQ below (th_Q D cT T (km q) (th_RP 0 1 (fun r => (r.toInt ≠ 0 → 97 ≤ y0.toInt ∧ y0.toInt ≤ 122) ∧ (r.toInt = 0 → y0.toInt < 97 ∨ 122 < y0.toInt))) []) [.int y0].toArray s 0 0 (th_A T [])) (F0 m 16 ls []) := by
    intro H locs ls v16_inv0 hH hS hl
    refine lv_iconst (v := 0) hx hb dX11_isLetter_16 (by decide) ?_
    exact J17_s0_0 H locs ls (show (0 : Int) ≠ 0 → 97 ≤ y0.toInt ∧ y0.toInt ≤ 122 by first | omega | (intro z; omega)) (show (0 : Int) = 0 → y0.toInt < 97 ∨ 122 < y0.toInt by first | omega | (intro z; omega)) hH hS (lv_sub hl [] rfl)
  have J0 : ∀ (H : Heap) (locs : List Loc) (ls : Array Slot), th_H D cT T (km q) H → va_S (th_A T []) s.heap H locs → lv_has ls 1 [(0, .int y0)] → W p l e (rmk 0 0) s m [.int y0].toArray below meth c H locs 0 0 (MQ below (th_Q D cT T (km q) (th_RP 0 1 (fun r => (r.toInt ≠ 0 → 97 ≤ y0.toInt ∧ y0.toInt ≤ 122) ∧ (r.toInt = 0 → y0.toInt < 97 ∨ 122 < y0.toInt))) []) [.int y0].toArray s 0 0 (th_A T [])) (F0 m 0 ls []) := by
    intro H locs ls hH hS hl
    refine lv_iload_n hx hb dX11_isLetter_0 rfl (lv_at hl 0 rfl) ?_
    refine lv_bipush (v := 97) hx hb dX11_isLetter_1 (by decide) ?_
    refine lv_icmp_lt (tgt := 16) hx hb dX11_isLetter_3 (by decide) (fun c1 => ?_) (fun c1 => ?_)
    · skip
      have rlc1 : y0.toInt < (97 : Int) := iv_lt c1
      have ir2 : IV y0 (-2147483648) 96 := iv_uL j0 (iv_c (by decide) : IV 97 97 97) (iv_lt c1) (by decide)
      have ir2a := ir2.1; have ir2b := ir2.2
      exact J16 H locs ls (show y0.toInt < 97 ∨ 122 < y0.toInt by omega) hH hS (lv_sub hl [] rfl)
    · skip
      have rlc1 : (97 : Int) ≤ y0.toInt := iv_nlt c1
      have ir3 : IV y0 97 2147483647 := iv_vR (iv_c (by decide) : IV 97 97 97) j0 (iv_nlt c1) (by decide)
      have ir3a := ir3.1; have ir3b := ir3.2
      refine lv_iload_n hx hb dX11_isLetter_6 rfl (lv_at hl 0 rfl) ?_
      refine lv_bipush (v := 122) hx hb dX11_isLetter_7 (by decide) ?_
      refine lv_icmp_gt (tgt := 16) hx hb dX11_isLetter_9 (by decide) (fun c4 => ?_) (fun c4 => ?_)
      · skip
        have rlc4 : (122 : Int) < y0.toInt := iv_lt c4
        have ir5 : IV y0 123 2147483647 := iv_uR (iv_c (by decide) : IV 122 122 122) ir3 (iv_lt c4) (by decide)
        have ir5a := ir5.1; have ir5b := ir5.2
        exact J16 H locs ls (show y0.toInt < 97 ∨ 122 < y0.toInt by omega) hH hS (lv_sub hl [] rfl)
      · skip
        have rlc4 : y0.toInt ≤ (122 : Int) := iv_nlt c4
        have ir6 : IV y0 97 122 := iv_vL ir3 (iv_c (by decide) : IV 122 122 122) (iv_nlt c4) (by decide)
        have ir6a := ir6.1; have ir6b := ir6.2
        refine lv_iconst (v := 1) hx hb dX11_isLetter_12 (by decide) ?_
        refine lv_goto (tgt := 17) hx hb dX11_isLetter_13 (by decide) ?_
        exact J17_s0_1 H locs ls (show (1 : Int) ≠ 0 → 97 ≤ y0.toInt ∧ y0.toInt ≤ 122 by first | omega | (intro z; omega)) (show (1 : Int) = 0 → y0.toInt < 97 ∨ 122 < y0.toInt by first | omega | (intro z; omega)) hH hS (lv_sub hl [] rfl)
  exact J0 s.heap [] ls hH va_S.rf hl

set_option maxRecDepth 100000 in
theorem m_X11_isDigit (l : Launch) (D : va_G) (cT : Nat → ClassId) (T : Nat → Option Nat) (q : Nat → Int) (hT : tokm T) (hq : qkm q) (y0 : Int32) (j0 : IV y0 (-2147483648) 2147483647) : th_Met l D cT T (km q) yX11_isDigit cX11_isDigit 1 (some .boolean) (rmk 0 0) [.int y0] (th_RP 0 1 (fun r => (r.toInt ≠ 0 → 48 ≤ y0.toInt ∧ y0.toInt ≤ 57) ∧ (r.toInt = 0 → y0.toInt < 48 ∨ 57 < y0.toInt))) [] := by
  refine th_start (by decide) (Nat.le_of_ble_eq_true rfl) ?_
  intro p e s m below meth c ls S hK hH hr hlocks hnm hl
  have hx := S.1
  have hb := S.2.1
  have hl : lv_has ls 1 [(0, .int y0)] := hl
  have J17_s0_0 : ∀ (H : Heap) (locs : List Loc) (ls : Array Slot), ((0 : Int) ≠ 0 → 48 ≤ y0.toInt ∧ y0.toInt ≤ 57) → ((0 : Int) = 0 → y0.toInt < 48 ∨ 57 < y0.toInt) → th_H D cT T (km q) H → va_S (th_A T []) s.heap H locs → lv_has ls 1 [] → W p l e (rmk 0 0) s m [.int y0].toArray below meth c H locs 0 0 (MQ below (th_Q D cT T (km q) (th_RP 0 1 (fun r => (r.toInt ≠ 0 → 48 ≤ y0.toInt ∧ y0.toInt ≤ 57) ∧ (r.toInt = 0 → y0.toInt < 48 ∨ 57 < y0.toInt))) []) [.int y0].toArray s 0 0 (th_A T [])) (F0 m 17 ls [.int 0]) := by
    intro H locs ls v17_inv0 v17_inv1 hH hS hl
    exact th_zret S hK hH hS hr hlocks (iv_w (iv_c (by decide) : IV 0 0 0) (by decide)) (th_RP.i (iv_w (iv_c (by decide) : IV 0 0 0) (by decide)) ⟨(show (0 : Int) ≠ 0 → 48 ≤ y0.toInt ∧ y0.toInt ≤ 57 by first | assumption | (first | omega | (intro z; omega))), (show (0 : Int) = 0 → y0.toInt < 48 ∨ 57 < y0.toInt by first | assumption | (first | omega | (intro z; omega)))⟩) dX11_isDigit_17
  have J17_s0_1 : ∀ (H : Heap) (locs : List Loc) (ls : Array Slot), ((1 : Int) ≠ 0 → 48 ≤ y0.toInt ∧ y0.toInt ≤ 57) → ((1 : Int) = 0 → y0.toInt < 48 ∨ 57 < y0.toInt) → th_H D cT T (km q) H → va_S (th_A T []) s.heap H locs → lv_has ls 1 [] → W p l e (rmk 0 0) s m [.int y0].toArray below meth c H locs 0 0 (MQ below (th_Q D cT T (km q) (th_RP 0 1 (fun r => (r.toInt ≠ 0 → 48 ≤ y0.toInt ∧ y0.toInt ≤ 57) ∧ (r.toInt = 0 → y0.toInt < 48 ∨ 57 < y0.toInt))) []) [.int y0].toArray s 0 0 (th_A T [])) (F0 m 17 ls [.int 1]) := by
    intro H locs ls v17_inv0 v17_inv1 hH hS hl
    exact th_zret S hK hH hS hr hlocks (iv_w (iv_c (by decide) : IV 1 1 1) (by decide)) (th_RP.i (iv_w (iv_c (by decide) : IV 1 1 1) (by decide)) ⟨(show (1 : Int) ≠ 0 → 48 ≤ y0.toInt ∧ y0.toInt ≤ 57 by first | assumption | (first | omega | (intro z; omega))), (show (1 : Int) = 0 → y0.toInt < 48 ∨ 57 < y0.toInt by first | assumption | (first | omega | (intro z; omega)))⟩) dX11_isDigit_17
  have J16 : ∀ (H : Heap) (locs : List Loc) (ls : Array Slot), (y0.toInt < 48 ∨ 57 < y0.toInt) → th_H D cT T (km q) H → va_S (th_A T []) s.heap H locs → lv_has ls 1 [] → W p l e (rmk 0 0) s m [.int y0].toArray below meth c H locs 0 0 (MQ below (th_Q D cT T (km q) (th_RP 0 1 (fun r => (r.toInt ≠ 0 → 48 ≤ y0.toInt ∧ y0.toInt ≤ 57) ∧ (r.toInt = 0 → y0.toInt < 48 ∨ 57 < y0.toInt))) []) [.int y0].toArray s 0 0 (th_A T [])) (F0 m 16 ls []) := by
    intro H locs ls v16_inv0 hH hS hl
    refine lv_iconst (v := 0) hx hb dX11_isDigit_16 (by decide) ?_
    exact J17_s0_0 H locs ls (show (0 : Int) ≠ 0 → 48 ≤ y0.toInt ∧ y0.toInt ≤ 57 by first | omega | (intro z; omega)) (show (0 : Int) = 0 → y0.toInt < 48 ∨ 57 < y0.toInt by first | omega | (intro z; omega)) hH hS (lv_sub hl [] rfl)
  have J0 : ∀ (H : Heap) (locs : List Loc) (ls : Array Slot), th_H D cT T (km q) H → va_S (th_A T []) s.heap H locs → lv_has ls 1 [(0, .int y0)] → W p l e (rmk 0 0) s m [.int y0].toArray below meth c H locs 0 0 (MQ below (th_Q D cT T (km q) (th_RP 0 1 (fun r => (r.toInt ≠ 0 → 48 ≤ y0.toInt ∧ y0.toInt ≤ 57) ∧ (r.toInt = 0 → y0.toInt < 48 ∨ 57 < y0.toInt))) []) [.int y0].toArray s 0 0 (th_A T [])) (F0 m 0 ls []) := by
    intro H locs ls hH hS hl
    refine lv_iload_n hx hb dX11_isDigit_0 rfl (lv_at hl 0 rfl) ?_
    refine lv_bipush (v := 48) hx hb dX11_isDigit_1 (by decide) ?_
    refine lv_icmp_lt (tgt := 16) hx hb dX11_isDigit_3 (by decide) (fun c1 => ?_) (fun c1 => ?_)
    · skip
      have rlc1 : y0.toInt < (48 : Int) := iv_lt c1
      have ir2 : IV y0 (-2147483648) 47 := iv_uL j0 (iv_c (by decide) : IV 48 48 48) (iv_lt c1) (by decide)
      have ir2a := ir2.1; have ir2b := ir2.2
      exact J16 H locs ls (show y0.toInt < 48 ∨ 57 < y0.toInt by omega) hH hS (lv_sub hl [] rfl)
    · skip
      have rlc1 : (48 : Int) ≤ y0.toInt := iv_nlt c1
      have ir3 : IV y0 48 2147483647 := iv_vR (iv_c (by decide) : IV 48 48 48) j0 (iv_nlt c1) (by decide)
      have ir3a := ir3.1; have ir3b := ir3.2
      refine lv_iload_n hx hb dX11_isDigit_6 rfl (lv_at hl 0 rfl) ?_
      refine lv_bipush (v := 57) hx hb dX11_isDigit_7 (by decide) ?_
      refine lv_icmp_gt (tgt := 16) hx hb dX11_isDigit_9 (by decide) (fun c4 => ?_) (fun c4 => ?_)
      · skip
        have rlc4 : (57 : Int) < y0.toInt := iv_lt c4
        have ir5 : IV y0 58 2147483647 := iv_uR (iv_c (by decide) : IV 57 57 57) ir3 (iv_lt c4) (by decide)
        have ir5a := ir5.1; have ir5b := ir5.2
        exact J16 H locs ls (show y0.toInt < 48 ∨ 57 < y0.toInt by omega) hH hS (lv_sub hl [] rfl)
      · skip
        have rlc4 : y0.toInt ≤ (57 : Int) := iv_nlt c4
        have ir6 : IV y0 48 57 := iv_vL ir3 (iv_c (by decide) : IV 57 57 57) (iv_nlt c4) (by decide)
        have ir6a := ir6.1; have ir6b := ir6.2
        refine lv_iconst (v := 1) hx hb dX11_isDigit_12 (by decide) ?_
        refine lv_goto (tgt := 17) hx hb dX11_isDigit_13 (by decide) ?_
        exact J17_s0_1 H locs ls (show (1 : Int) ≠ 0 → 48 ≤ y0.toInt ∧ y0.toInt ≤ 57 by first | omega | (intro z; omega)) (show (1 : Int) = 0 → y0.toInt < 48 ∨ 57 < y0.toInt by first | omega | (intro z; omega)) hH hS (lv_sub hl [] rfl)
  exact J0 s.heap [] ls hH va_S.rf hl

set_option maxRecDepth 100000 in
theorem m_X11_many (l : Launch) (D : va_G) (cT : Nat → ClassId) (T : Nat → Option Nat) (q : Nat → Int) (hT : tokm T) (hq : qkm q) (a0 : Nat) (t0 : T a0 = some 0) : th_Met l D cT T (km q) yX11_many cX11_many 1 (some .int) (rmk 0 0) [.ref a0] (th_RP 0 4 (fun r => (r.toInt = q 11))) [] := by
  refine th_start (by decide) (Nat.le_of_ble_eq_true rfl) ?_
  intro p e s m below meth c ls S hK hH hr hlocks hnm hl
  have hx := S.1
  have hb := S.2.1
  have hl : lv_has ls 1 [(0, .ref a0)] := hl
  have J0 : ∀ (H : Heap) (locs : List Loc) (ls : Array Slot), th_H D cT T (km q) H → va_S (th_A T []) s.heap H locs → lv_has ls 1 [(0, .ref a0)] → W p l e (rmk 0 0) s m [.ref a0].toArray below meth c H locs 0 0 (MQ below (th_Q D cT T (km q) (th_RP 0 4 (fun r => (r.toInt = q 11))) []) [.ref a0].toArray s 0 0 (th_A T [])) (F0 m 0 ls []) := by
    intro H locs ls hH hS hl
    refine lv_aload_n hx hb dX11_many_0 rfl (lv_at hl 0 rfl) ?_
    refine th_get S hK hH inG11 t0 km_0 rfl 12 (by decide) gm_1242 rfl rfl dX11_many_1 (fun v1 hv1 fv1 => ?_)
    obtain ⟨rf2, rfl, trf2⟩ := th_V.ref hv1
    refine lv_aload_n hx hb dX11_many_4 rfl (lv_at hl 0 rfl) ?_
    refine th_get S hK hH inG11 t0 km_0 rfl 41 (by decide) gm_1271 rfl rfl dX11_many_5 (fun v3 hv3 fv3 => ?_)
    obtain ⟨x4, rfl, ix4⟩ := th_V.int hv3
    have kx4a : q 10 ≤ x4.toInt := ix4.1
    have kx4b : x4.toInt ≤ q 10 := ix4.2
    have ix4 : IV x4 0 1 := iv_w ix4 (qkm_10 hq)
    refine th_iald S hK hH trf2 km_4 (th_in (hi := 1) ix4 (by decide)) dX11_many_8 (fun v5 hv5 => ?_)
    obtain ⟨x6, rfl, ix6⟩ := th_bkA hv5 ix4 (by omega)
    have kx6a : q 11 ≤ x6.toInt := ix6.1
    have kx6b : x6.toInt ≤ q 11 := ix6.2
    have ix6 : IV x6 0 4 := iv_w ix6 (qkm_11 hq)
    exact th_iret S hK hH hS hr hlocks (th_RP.i ix6 (show x6.toInt = q 11 by first | assumption | (first | omega | (intro z; omega)))) dX11_many_9
  exact J0 s.heap [] ls hH va_S.rf hl

set_option maxRecDepth 100000 in
theorem m_X11_startAnew (l : Launch) (D : va_G) (cT : Nat → ClassId) (T : Nat → Option Nat) (q : Nat → Int) (hT : tokm T) (hq : qkm q) (a0 : Nat) (t0 : T a0 = some 0) : th_MetM l D cT T q yX11_startAnew cX11_startAnew 2 none (rmk 1 20) [.ref a0] (fun v q2 => v = none ∧ qkm q2 ∧ fr [7, 8] q q2 ∧ (q2 7 = 0) ∧ (q2 8 = 0)) [0, 33, 44] := by
  refine th_startM (by decide) (Nat.le_of_ble_eq_true rfl) ?_
  intro p e s m below meth c ls S hK hH hr hlocks hnm hl
  have hx := S.1
  have hb := S.2.1
  have hl : lv_has ls 2 [(0, .ref a0)] := hl
  have J223 : ∀ (n : Nat) (q223 : Nat → Int) (H : Heap) (locs : List Loc) (ls : Array Slot) (v223_1 : Int32), qkm q223 → fr [7, 8] q q223 → IV v223_1 0 3 → (q223 7 = 0) → (q223 8 = 0) → th_H D cT T (km q223) H → va_S (th_A T [0, 33, 44]) s.heap H locs → lv_has ls 2 [(0, .ref a0), (1, .int v223_1)] → (3 + 1 - Int32.toInt v223_1).toNat < n → W p l e (rmk 1 20) s m [.ref a0].toArray below meth c H locs 0 0 (MQ below (th_QM D cT T (fun v q2 => v = none ∧ qkm q2 ∧ fr [7, 8] q q2 ∧ (q2 7 = 0) ∧ (q2 8 = 0)) [0, 33, 44]) [.ref a0].toArray s 0 0 (th_A T [0, 33, 44])) (F0 m 223 ls []) := by
    intro n
    induction n with
    | zero => intro q223 H locs ls v223_1 hq223 h0223 iv223_1 v223_inv0 v223_inv1 hH hS hl hn; exact absurd hn (Nat.not_lt_zero _)
    | succ n ih223 =>
      intro q223 H locs ls v223_1 hq223 h0223 iv223_1 v223_inv0 v223_inv1 hH hS hl hn223
      have l1v223_1 := iv223_1.1; have l2v223_1 := iv223_1.2
      refine lv_iload_n hx hb dX11_startAnew_223 rfl (lv_at hl 1 rfl) ?_
      refine lv_iconst (v := 3) hx hb dX11_startAnew_224 (by decide) ?_
      refine lv_icmp_ge (tgt := 241) hx hb dX11_startAnew_225 (by decide) (fun c1 => ?_) (fun c1 => ?_)
      · skip
        have rlc1 : (3 : Int) ≤ v223_1.toInt := iv_le c1
        have ir2 : IV v223_1 3 3 := iv_vR (iv_c (by decide) : IV 3 3 3) iv223_1 (iv_le c1) (by decide)
        have ir2a := ir2.1; have ir2b := ir2.2
        exact th_vretM S hK hH hS hr hlocks ⟨rfl, hq223, h0223, (show q223 7 = 0 by omega), (show q223 8 = 0 by omega)⟩ dX11_startAnew_241
      · skip
        have rlc1 : v223_1.toInt < (3 : Int) := iv_nle c1
        have ir3 : IV v223_1 0 2 := iv_uL iv223_1 (iv_c (by decide) : IV 3 3 3) (iv_nle c1) (by decide)
        have ir3a := ir3.1; have ir3b := ir3.2
        refine lv_aload_n hx hb dX11_startAnew_228 rfl (lv_at hl 0 rfl) ?_
        refine th_get S hK hH inG11 t0 km_0 rfl 68 (by decide) gm_1298 rfl rfl dX11_startAnew_229 (fun v4 hv4 fv4 => ?_)
        obtain ⟨rf5, rfl, trf5⟩ := th_V.ref hv4
        refine lv_iload_n hx hb dX11_startAnew_232 rfl (lv_at hl 1 rfl) ?_
        refine lv_iconst (v := 0) hx hb dX11_startAnew_233 (by decide) ?_
        refine th_zast S hK hH hS ⟨44, by decide, trf5⟩ trf5 km_44 (th_in (hi := 2) ir3 (by decide)) (fun z => th_iv (iv_nbool z)) dX11_startAnew_234 (fun H locs hH hS hq1 => ?_)
        refine th_iinc S dX11_startAnew_235 hl (k := 1) rfl (by decide) ir3 (by decide) (fun x6 ls ex6 ix6 hl => ?_)
        have hl : lv_has ls 2 [(1, .int x6), (0, .ref a0)] := hl
        have ix6 : IV x6 1 3 := ix6
        refine lv_goto (tgt := 223) hx hb dX11_startAnew_238 (by decide) ?_
        exact ih223 q223 H locs ls x6 hq223 h0223 (iv_w ix6 (by decide)) (show q223 7 = 0 by omega) (show q223 8 = 0 by omega) hH hS (lv_sub hl [1, 0] rfl) (th_up iv223_1 ex6 (by decide) hn223)
  have J184_s1_41_s2_0 : ∀ (H : Heap) (locs : List Loc) (ls : Array Slot) (w184_0 : Nat), T w184_0 = some 33 → th_H D cT T (km q) H → va_S (th_A T [0, 33, 44]) s.heap H locs → lv_has ls 2 [(0, .ref a0)] → W p l e (rmk 1 20) s m [.ref a0].toArray below meth c H locs 0 0 (MQ below (th_QM D cT T (fun v q2 => v = none ∧ qkm q2 ∧ fr [7, 8] q q2 ∧ (q2 7 = 0) ∧ (q2 8 = 0)) [0, 33, 44]) [.ref a0].toArray s 0 0 (th_A T [0, 33, 44])) (F0 m 184 ls [.int 0, .int 41, .ref w184_0]) := by
    intro H locs ls w184_0 tw184_0 hH hS hl
    refine th_iast S hK hH hS ⟨33, by decide, tw184_0⟩ tw184_0 km_33 (th_in (hi := 41) (iv_w (iv_c (by decide) : IV 41 41 41) (by decide)) (by decide)) (th_iv (iv_top _)) dX11_startAnew_184 (fun H locs hH hS hq1 => ?_)
    refine lv_aload_n hx hb dX11_startAnew_185 rfl (lv_at hl 0 rfl) ?_
    refine th_get S hK hH inG11 t0 km_0 rfl 52 (by decide) gm_1282 rfl rfl dX11_startAnew_186 (fun v7 hv7 fv7 => ?_)
    obtain ⟨rf8, rfl, trf8⟩ := th_V.ref hv7
    refine lv_bipush (v := 42) hx hb dX11_startAnew_189 (by decide) ?_
    refine lv_aload_n hx hb dX11_startAnew_191 rfl (lv_at hl 0 rfl) ?_
    refine th_get S hK hH inG11 t0 km_0 rfl 17 (by decide) gm_1247 rfl rfl dX11_startAnew_192 (fun v9 hv9 fv9 => ?_)
    obtain ⟨rf10, rfl, trf10⟩ := th_V.ref hv9
    refine lv_aload_n hx hb dX11_startAnew_195 rfl (lv_at hl 0 rfl) ?_
    refine th_get S hK hH inG11 t0 km_0 rfl 41 (by decide) gm_1271 rfl rfl dX11_startAnew_196 (fun v11 hv11 fv11 => ?_)
    obtain ⟨x12, rfl, ix12⟩ := th_V.int hv11
    have kx12a : q 10 ≤ x12.toInt := ix12.1
    have kx12b : x12.toInt ≤ q 10 := ix12.2
    have ix12 : IV x12 0 1 := iv_w ix12 (qkm_10 hq)
    refine th_iald S hK hH trf10 km_9 (th_in (hi := 1) ix12 (by decide)) dX11_startAnew_199 (fun v13 hv13 => ?_)
    obtain ⟨x14, rfl, ix14⟩ := th_V.int hv13
    refine th_iast S hK hH hS ⟨33, by decide, trf8⟩ trf8 km_33 (th_in (hi := 42) (iv_w (iv_c (by decide) : IV 42 42 42) (by decide)) (by decide)) (th_iv ix14) dX11_startAnew_200 (fun H locs hH hS hq1 => ?_)
    have f15 := fv7.kept (hq1 _ (th_ne t0 trf8 (by decide)))
    refine lv_aload_n hx hb dX11_startAnew_201 rfl (lv_at hl 0 rfl) ?_
    refine lv_iconst (v := 0) hx hb dX11_startAnew_202 (by decide) ?_
    obtain ⟨n17, en17⟩ : ∃ z : Int, z = Int32.toInt 0 := ⟨_, rfl⟩
    have fn17 : n17 = 0 := by rw [en17]; rfl
    refine mput_7 S hK hH hS ⟨0, by decide, t0⟩ hT t0 en17 gm_1284 dX11_startAnew_203 (fun q16 H locs eq16 hH hS hq1 => ?_)
    have hqq16 : qkm q16 := by rw [eq16]; exact qum_ok7 hq (iv_z en17 (iv_w (iv_c (by decide) : IV 0 0 0) (by decide)))
    have h0q16 : fr [7, 8] q q16 := by rw [eq16]; exact fr_up fr_rf (by decide)
    have wq16_7 : q16 7 = n17 := by rw [eq16]; rfl
    have wq16_8 : q16 8 = q 8 := by rw [eq16]; rfl
    refine lv_aload_n hx hb dX11_startAnew_206 rfl (lv_at hl 0 rfl) ?_
    refine lv_iconst (v := 0) hx hb dX11_startAnew_207 (by decide) ?_
    obtain ⟨n19, en19⟩ : ∃ z : Int, z = Int32.toInt 0 := ⟨_, rfl⟩
    have fn19 : n19 = 0 := by rw [en19]; rfl
    refine mput_8 S hK hH hS ⟨0, by decide, t0⟩ hT t0 en19 gm_1285 dX11_startAnew_208 (fun q18 H locs eq18 hH hS hq1 => ?_)
    have hqq18 : qkm q18 := by rw [eq18]; exact qum_ok8 hqq16 (iv_z en19 (iv_w (iv_c (by decide) : IV 0 0 0) (by decide)))
    have h0q18 : fr [7, 8] q q18 := by rw [eq18]; exact fr_up h0q16 (by decide)
    have wq18_7 : q18 7 = q16 7 := by rw [eq18]; rfl
    have wq18_8 : q18 8 = n19 := by rw [eq18]; rfl
    refine lv_aload_n hx hb dX11_startAnew_211 rfl (lv_at hl 0 rfl) ?_
    refine lv_iconst (v := 0) hx hb dX11_startAnew_212 (by decide) ?_
    refine th_put S hK hH hS ⟨0, by decide, t0⟩ inG11 tyX11 tyX11_ok nmX11 t0 km_0 rfl 65 (by decide) gm_1295 rfl rfl rfl rfl (th_iv (iv_w (iv_c (by decide) : IV 0 0 0) (by decide))) (fun vs h => nmR_set h.2.2 (by decide) rfl) (ty := .int) (by decide +kernel) rfl rfl dX11_startAnew_213 (fun H locs hH hS hq1 hp1 => ?_)
    refine lv_aload_n hx hb dX11_startAnew_216 rfl (lv_at hl 0 rfl) ?_
    refine lv_iconst (v := 0) hx hb dX11_startAnew_217 (by decide) ?_
    refine th_put S hK hH hS ⟨0, by decide, t0⟩ inG11 tyX11 tyX11_ok nmX11 t0 km_0 rfl 59 (by decide) gm_1289 rfl rfl rfl rfl (th_iv (iv_w (iv_c (by decide) : IV 0 0 0) (by decide))) (fun vs h => nmR_set h.2.2 (by decide) rfl) (ty := .int) (by decide +kernel) rfl rfl dX11_startAnew_218 (fun H locs hH hS hq1 hp1 => ?_)
    refine lv_iconst (v := 0) hx hb dX11_startAnew_221 (by decide) ?_
    refine lv_istore_n (lv' := [(1, .int 0), (0, .ref a0)]) hx hb dX11_startAnew_222 rfl hl (by decide) rfl (fun ls hl => ?_)
    exact J223 ((3 + 1 - Int32.toInt 0).toNat + 1) q18 H locs ls 0 hqq18 h0q18 (iv_w (iv_c (by decide) : IV 0 0 0) (by decide)) (show q18 7 = 0 by omega) (show q18 8 = 0 by omega) hH hS (lv_sub hl [1, 0] rfl) (Nat.lt_succ_self _)
  have J184_s1_41_s2_1 : ∀ (H : Heap) (locs : List Loc) (ls : Array Slot) (w184_0 : Nat), T w184_0 = some 33 → th_H D cT T (km q) H → va_S (th_A T [0, 33, 44]) s.heap H locs → lv_has ls 2 [(0, .ref a0)] → W p l e (rmk 1 20) s m [.ref a0].toArray below meth c H locs 0 0 (MQ below (th_QM D cT T (fun v q2 => v = none ∧ qkm q2 ∧ fr [7, 8] q q2 ∧ (q2 7 = 0) ∧ (q2 8 = 0)) [0, 33, 44]) [.ref a0].toArray s 0 0 (th_A T [0, 33, 44])) (F0 m 184 ls [.int 1, .int 41, .ref w184_0]) := by
    intro H locs ls w184_0 tw184_0 hH hS hl
    refine th_iast S hK hH hS ⟨33, by decide, tw184_0⟩ tw184_0 km_33 (th_in (hi := 41) (iv_w (iv_c (by decide) : IV 41 41 41) (by decide)) (by decide)) (th_iv (iv_top _)) dX11_startAnew_184 (fun H locs hH hS hq1 => ?_)
    refine lv_aload_n hx hb dX11_startAnew_185 rfl (lv_at hl 0 rfl) ?_
    refine th_get S hK hH inG11 t0 km_0 rfl 52 (by decide) gm_1282 rfl rfl dX11_startAnew_186 (fun v20 hv20 fv20 => ?_)
    obtain ⟨rf21, rfl, trf21⟩ := th_V.ref hv20
    refine lv_bipush (v := 42) hx hb dX11_startAnew_189 (by decide) ?_
    refine lv_aload_n hx hb dX11_startAnew_191 rfl (lv_at hl 0 rfl) ?_
    refine th_get S hK hH inG11 t0 km_0 rfl 17 (by decide) gm_1247 rfl rfl dX11_startAnew_192 (fun v22 hv22 fv22 => ?_)
    obtain ⟨rf23, rfl, trf23⟩ := th_V.ref hv22
    refine lv_aload_n hx hb dX11_startAnew_195 rfl (lv_at hl 0 rfl) ?_
    refine th_get S hK hH inG11 t0 km_0 rfl 41 (by decide) gm_1271 rfl rfl dX11_startAnew_196 (fun v24 hv24 fv24 => ?_)
    obtain ⟨x25, rfl, ix25⟩ := th_V.int hv24
    have kx25a : q 10 ≤ x25.toInt := ix25.1
    have kx25b : x25.toInt ≤ q 10 := ix25.2
    have ix25 : IV x25 0 1 := iv_w ix25 (qkm_10 hq)
    refine th_iald S hK hH trf23 km_9 (th_in (hi := 1) ix25 (by decide)) dX11_startAnew_199 (fun v26 hv26 => ?_)
    obtain ⟨x27, rfl, ix27⟩ := th_V.int hv26
    refine th_iast S hK hH hS ⟨33, by decide, trf21⟩ trf21 km_33 (th_in (hi := 42) (iv_w (iv_c (by decide) : IV 42 42 42) (by decide)) (by decide)) (th_iv ix27) dX11_startAnew_200 (fun H locs hH hS hq1 => ?_)
    have f28 := fv20.kept (hq1 _ (th_ne t0 trf21 (by decide)))
    refine lv_aload_n hx hb dX11_startAnew_201 rfl (lv_at hl 0 rfl) ?_
    refine lv_iconst (v := 0) hx hb dX11_startAnew_202 (by decide) ?_
    obtain ⟨n30, en30⟩ : ∃ z : Int, z = Int32.toInt 0 := ⟨_, rfl⟩
    have fn30 : n30 = 0 := by rw [en30]; rfl
    refine mput_7 S hK hH hS ⟨0, by decide, t0⟩ hT t0 en30 gm_1284 dX11_startAnew_203 (fun q29 H locs eq29 hH hS hq1 => ?_)
    have hqq29 : qkm q29 := by rw [eq29]; exact qum_ok7 hq (iv_z en30 (iv_w (iv_c (by decide) : IV 0 0 0) (by decide)))
    have h0q29 : fr [7, 8] q q29 := by rw [eq29]; exact fr_up fr_rf (by decide)
    have wq29_7 : q29 7 = n30 := by rw [eq29]; rfl
    have wq29_8 : q29 8 = q 8 := by rw [eq29]; rfl
    refine lv_aload_n hx hb dX11_startAnew_206 rfl (lv_at hl 0 rfl) ?_
    refine lv_iconst (v := 0) hx hb dX11_startAnew_207 (by decide) ?_
    obtain ⟨n32, en32⟩ : ∃ z : Int, z = Int32.toInt 0 := ⟨_, rfl⟩
    have fn32 : n32 = 0 := by rw [en32]; rfl
    refine mput_8 S hK hH hS ⟨0, by decide, t0⟩ hT t0 en32 gm_1285 dX11_startAnew_208 (fun q31 H locs eq31 hH hS hq1 => ?_)
    have hqq31 : qkm q31 := by rw [eq31]; exact qum_ok8 hqq29 (iv_z en32 (iv_w (iv_c (by decide) : IV 0 0 0) (by decide)))
    have h0q31 : fr [7, 8] q q31 := by rw [eq31]; exact fr_up h0q29 (by decide)
    have wq31_7 : q31 7 = q29 7 := by rw [eq31]; rfl
    have wq31_8 : q31 8 = n32 := by rw [eq31]; rfl
    refine lv_aload_n hx hb dX11_startAnew_211 rfl (lv_at hl 0 rfl) ?_
    refine lv_iconst (v := 0) hx hb dX11_startAnew_212 (by decide) ?_
    refine th_put S hK hH hS ⟨0, by decide, t0⟩ inG11 tyX11 tyX11_ok nmX11 t0 km_0 rfl 65 (by decide) gm_1295 rfl rfl rfl rfl (th_iv (iv_w (iv_c (by decide) : IV 0 0 0) (by decide))) (fun vs h => nmR_set h.2.2 (by decide) rfl) (ty := .int) (by decide +kernel) rfl rfl dX11_startAnew_213 (fun H locs hH hS hq1 hp1 => ?_)
    refine lv_aload_n hx hb dX11_startAnew_216 rfl (lv_at hl 0 rfl) ?_
    refine lv_iconst (v := 0) hx hb dX11_startAnew_217 (by decide) ?_
    refine th_put S hK hH hS ⟨0, by decide, t0⟩ inG11 tyX11 tyX11_ok nmX11 t0 km_0 rfl 59 (by decide) gm_1289 rfl rfl rfl rfl (th_iv (iv_w (iv_c (by decide) : IV 0 0 0) (by decide))) (fun vs h => nmR_set h.2.2 (by decide) rfl) (ty := .int) (by decide +kernel) rfl rfl dX11_startAnew_218 (fun H locs hH hS hq1 hp1 => ?_)
    refine lv_iconst (v := 0) hx hb dX11_startAnew_221 (by decide) ?_
    refine lv_istore_n (lv' := [(1, .int 0), (0, .ref a0)]) hx hb dX11_startAnew_222 rfl hl (by decide) rfl (fun ls hl => ?_)
    exact J223 ((3 + 1 - Int32.toInt 0).toNat + 1) q31 H locs ls 0 hqq31 h0q31 (iv_w (iv_c (by decide) : IV 0 0 0) (by decide)) (show q31 7 = 0 by omega) (show q31 8 = 0 by omega) hH hS (lv_sub hl [1, 0] rfl) (Nat.lt_succ_self _)
  have J109 : ∀ (n : Nat) (H : Heap) (locs : List Loc) (ls : Array Slot) (v109_1 : Int32), IV v109_1 0 4 → th_H D cT T (km q) H → va_S (th_A T [0, 33, 44]) s.heap H locs → lv_has ls 2 [(0, .ref a0), (1, .int v109_1)] → (4 + 1 - Int32.toInt v109_1).toNat < n → W p l e (rmk 1 20) s m [.ref a0].toArray below meth c H locs 0 0 (MQ below (th_QM D cT T (fun v q2 => v = none ∧ qkm q2 ∧ fr [7, 8] q q2 ∧ (q2 7 = 0) ∧ (q2 8 = 0)) [0, 33, 44]) [.ref a0].toArray s 0 0 (th_A T [0, 33, 44])) (F0 m 109 ls []) := by
    intro n
    induction n with
    | zero => intro H locs ls v109_1 iv109_1 hH hS hl hn; exact absurd hn (Nat.not_lt_zero _)
    | succ n ih109 =>
      intro H locs ls v109_1 iv109_1 hH hS hl hn109
      have l1v109_1 := iv109_1.1; have l2v109_1 := iv109_1.2
      refine lv_iload_n hx hb dX11_startAnew_109 rfl (lv_at hl 1 rfl) ?_
      refine lv_aload_n hx hb dX11_startAnew_110 rfl (lv_at hl 0 rfl) ?_
      refine th_callVp (n := 0) (As := []) S hK hH hS (th_A.sub (by decide)) (m_X11_many l D cT T q hT hq a0 t0) gm_1229 gm_1226 gm_1228 gm_46 gm_124 (by decide +kernel) ⟨rfl, rfl, Nat.le_of_ble_eq_true rfl, Nat.le_of_ble_eq_true rfl⟩ t0 km_0 rfl rfl hl.1 rfl (Nat.le_of_ble_eq_true rfl) dX11_startAnew_111 ⟨Nat.zero_le _, Nat.zero_le _⟩ (fun x33 H locs ix33 ox33 hH hS hF1 => ?_)
      have ox33 : x33.toInt = q 11 := ox33
      have l1x33 := ix33.1; have l2x33 := ix33.2
      refine lv_icmp_ge (tgt := 145) hx hb dX11_startAnew_114 (by decide) (fun c34 => ?_) (fun c34 => ?_)
      · skip
        have rlc34 : x33.toInt ≤ v109_1.toInt := iv_le c34
        refine lv_aload_n hx hb dX11_startAnew_145 rfl (lv_at hl 0 rfl) ?_
        refine th_get S hK hH inG11 t0 km_0 rfl 52 (by decide) gm_1282 rfl rfl dX11_startAnew_146 (fun v35 hv35 fv35 => ?_)
        obtain ⟨rf36, rfl, trf36⟩ := th_V.ref hv35
        refine lv_bipush (v := 39) hx hb dX11_startAnew_149 (by decide) ?_
        refine lv_aload_n hx hb dX11_startAnew_151 rfl (lv_at hl 0 rfl) ?_
        refine th_get S hK hH inG11 t0 km_0 rfl 21 (by decide) gm_1251 rfl rfl dX11_startAnew_152 (fun v37 hv37 fv37 => ?_)
        obtain ⟨rf38, rfl, trf38⟩ := th_V.ref hv37
        refine lv_aload_n hx hb dX11_startAnew_155 rfl (lv_at hl 0 rfl) ?_
        refine th_get S hK hH inG11 t0 km_0 rfl 41 (by decide) gm_1271 rfl rfl dX11_startAnew_156 (fun v39 hv39 fv39 => ?_)
        obtain ⟨x40, rfl, ix40⟩ := th_V.int hv39
        have kx40a : q 10 ≤ x40.toInt := ix40.1
        have kx40b : x40.toInt ≤ q 10 := ix40.2
        have ix40 : IV x40 0 1 := iv_w ix40 (qkm_10 hq)
        refine th_iald S hK hH trf38 km_13 (th_in (hi := 1) ix40 (by decide)) dX11_startAnew_159 (fun v41 hv41 => ?_)
        obtain ⟨x42, rfl, ix42⟩ := th_V.int hv41
        refine th_iast S hK hH hS ⟨33, by decide, trf36⟩ trf36 km_33 (th_in (hi := 39) (iv_w (iv_c (by decide) : IV 39 39 39) (by decide)) (by decide)) (th_iv ix42) dX11_startAnew_160 (fun H locs hH hS hq1 => ?_)
        have f43 := fv35.kept (hq1 _ (th_ne t0 trf36 (by decide)))
        refine lv_aload_n hx hb dX11_startAnew_161 rfl (lv_at hl 0 rfl) ?_
        refine th_getK S hK f43 inG11 rfl (by decide) gm_1282 rfl dX11_startAnew_162 ?_
        refine lv_bipush (v := 41) hx hb dX11_startAnew_165 (by decide) ?_
        refine lv_aload_n hx hb dX11_startAnew_167 rfl (lv_at hl 0 rfl) ?_
        refine th_get S hK hH inG11 t0 km_0 rfl 31 (by decide) gm_1261 rfl rfl dX11_startAnew_168 (fun v45 hv45 fv45 => ?_)
        obtain ⟨rf46, rfl, trf46⟩ := th_V.ref hv45
        refine lv_aload_n hx hb dX11_startAnew_171 rfl (lv_at hl 0 rfl) ?_
        refine th_get S hK hH inG11 t0 km_0 rfl 41 (by decide) gm_1271 rfl rfl dX11_startAnew_172 (fun v47 hv47 fv47 => ?_)
        obtain ⟨x48, rfl, ix48⟩ := th_V.int hv47
        have kx48a : q 10 ≤ x48.toInt := ix48.1
        have kx48b : x48.toInt ≤ q 10 := ix48.2
        have ix48 : IV x48 0 1 := iv_w ix48 (qkm_10 hq)
        refine th_zald S hK hH trf46 km_23 (th_in (hi := 1) ix48 (by decide)) dX11_startAnew_175 (fun v49 hv49 => ?_)
        obtain ⟨x50, rfl, ix50⟩ := th_V.int hv49
        refine lv_if_eq (tgt := 183) hx hb dX11_startAnew_176 (by decide) (fun c51 => ?_) (fun c51 => ?_)
        · skip
          have rlc51 : x50.toInt = (0 : Int) := congrArg Int32.toInt c51
          have ir52 : IV x50 0 0 := iv_eL c51 (iv_c (by decide) : IV 0 0 0)
          have ir52a := ir52.1; have ir52b := ir52.2
          refine lv_iconst (v := 0) hx hb dX11_startAnew_183 (by decide) ?_
          exact J184_s1_41_s2_0 H locs ls rf36 trf36 hH hS (lv_sub hl [0] rfl)
        · skip
          have rlc51 : x50.toInt ≠ (0 : Int) := iv_ne c51
          have ir53 : IV x50 1 1 := iv_cutL ix50 (iv_c (by decide) : IV 0 0 0) c51 (by decide)
          have ir53a := ir53.1; have ir53b := ir53.2
          refine lv_iconst (v := 1) hx hb dX11_startAnew_179 (by decide) ?_
          refine lv_goto (tgt := 184) hx hb dX11_startAnew_180 (by decide) ?_
          exact J184_s1_41_s2_1 H locs ls rf36 trf36 hH hS (lv_sub hl [0] rfl)
      · skip
        have rlc34 : v109_1.toInt < x33.toInt := iv_nle c34
        have ir54 : IV v109_1 0 3 := iv_uL iv109_1 ix33 (iv_nle c34) (by decide)
        have ir54a := ir54.1; have ir54b := ir54.2
        have ir55 : IV x33 1 4 := iv_uR iv109_1 ix33 (iv_nle c34) (by decide)
        have ir55a := ir55.1; have ir55b := ir55.2
        refine lv_aload_n hx hb dX11_startAnew_117 rfl (lv_at hl 0 rfl) ?_
        refine th_get S hK hH inG11 t0 km_0 rfl 52 (by decide) gm_1282 rfl rfl dX11_startAnew_118 (fun v56 hv56 fv56 => ?_)
        obtain ⟨rf57, rfl, trf57⟩ := th_V.ref hv56
        refine lv_bipush (v := 35) hx hb dX11_startAnew_121 (by decide) ?_
        refine lv_iload_n hx hb dX11_startAnew_123 rfl (lv_at hl 1 rfl) ?_
        refine lv_iadd hx hb dX11_startAnew_124 ?_
        refine lv_topi (fun x58 ex58 => ?_)
        have ix58 : IV x58 35 38 := by rw [ex58]; exact iv_add (iv_c (by decide) : IV 35 35 35) ir54 (by decide)
        have ux58 : x58.toInt = (35 : Int) + v109_1.toInt := by rw [ex58]; exact iv_addE (by have z1 := ((iv_c (by decide) : IV 35 35 35)).1; have z2 := ((iv_c (by decide) : IV 35 35 35)).2; have z3 := (ir54).1; have z4 := (ir54).2; omega)
        refine lv_aload_n hx hb dX11_startAnew_125 rfl (lv_at hl 0 rfl) ?_
        refine th_get S hK hH inG11 t0 km_0 rfl 20 (by decide) gm_1250 rfl rfl dX11_startAnew_126 (fun v59 hv59 fv59 => ?_)
        obtain ⟨rf60, rfl, trf60⟩ := th_V.ref hv59
        refine lv_iconst (v := 4) hx hb dX11_startAnew_129 (by decide) ?_
        refine lv_aload_n hx hb dX11_startAnew_130 rfl (lv_at hl 0 rfl) ?_
        refine th_get S hK hH inG11 t0 km_0 rfl 41 (by decide) gm_1271 rfl rfl dX11_startAnew_131 (fun v61 hv61 fv61 => ?_)
        obtain ⟨x62, rfl, ix62⟩ := th_V.int hv61
        have kx62a : q 10 ≤ x62.toInt := ix62.1
        have kx62b : x62.toInt ≤ q 10 := ix62.2
        have ix62 : IV x62 0 1 := iv_w ix62 (qkm_10 hq)
        refine lv_imul hx hb dX11_startAnew_134 ?_
        refine lv_topi (fun x63 ex63 => ?_)
        have ix63 : IV x63 0 4 := by rw [ex63]; exact iv_mul (iv_c (by decide) : IV 4 4 4) ix62 (by decide) (by decide)
        have ux63 : x63.toInt = (4 : Int) * x62.toInt := by rw [ex63]; exact iv_mulE (iv_corner ((iv_c (by decide) : IV 4 4 4)).1 ((iv_c (by decide) : IV 4 4 4)).2 (ix62).1 (ix62).2 (by decide))
        refine lv_iload_n hx hb dX11_startAnew_135 rfl (lv_at hl 1 rfl) ?_
        refine lv_iadd hx hb dX11_startAnew_136 ?_
        refine lv_topi (fun x64 ex64 => ?_)
        have ix64 : IV x64 0 7 := by rw [ex64]; exact iv_add ix63 ir54 (by decide)
        have ux64 : x64.toInt = x63.toInt + v109_1.toInt := by rw [ex64]; exact iv_addE (by have z1 := (ix63).1; have z2 := (ix63).2; have z3 := (ir54).1; have z4 := (ir54).2; omega)
        refine th_iald S hK hH trf60 km_12 (th_in (hi := 7) ix64 (by decide)) dX11_startAnew_137 (fun v65 hv65 => ?_)
        obtain ⟨x66, rfl, ix66⟩ := th_V.int hv65
        refine th_iast S hK hH hS ⟨33, by decide, trf57⟩ trf57 km_33 (th_in (hi := 38) (iv_w ix58 (by decide)) (by decide)) (th_iv ix66) dX11_startAnew_138 (fun H locs hH hS hq1 => ?_)
        have f67 := fv56.kept (hq1 _ (th_ne t0 trf57 (by decide)))
        refine th_iinc S dX11_startAnew_139 hl (k := 1) rfl (by decide) ir54 (by decide) (fun x68 ls ex68 ix68 hl => ?_)
        have hl : lv_has ls 2 [(1, .int x68), (0, .ref a0)] := hl
        have ix68 : IV x68 1 4 := ix68
        refine lv_goto (tgt := 109) hx hb dX11_startAnew_142 (by decide) ?_
        exact ih109 H locs ls x68 (iv_w ix68 (by decide)) hH hS (lv_sub hl [1, 0] rfl) (th_up iv109_1 ex68 (by decide) hn109)
  have J65 : ∀ (n : Nat) (H : Heap) (locs : List Loc) (ls : Array Slot) (v65_1 : Int32), IV v65_1 0 8 → th_H D cT T (km q) H → va_S (th_A T [0, 33, 44]) s.heap H locs → lv_has ls 2 [(0, .ref a0), (1, .int v65_1)] → (8 + 1 - Int32.toInt v65_1).toNat < n → W p l e (rmk 1 20) s m [.ref a0].toArray below meth c H locs 0 0 (MQ below (th_QM D cT T (fun v q2 => v = none ∧ qkm q2 ∧ fr [7, 8] q q2 ∧ (q2 7 = 0) ∧ (q2 8 = 0)) [0, 33, 44]) [.ref a0].toArray s 0 0 (th_A T [0, 33, 44])) (F0 m 65 ls []) := by
    intro n
    induction n with
    | zero => intro H locs ls v65_1 iv65_1 hH hS hl hn; exact absurd hn (Nat.not_lt_zero _)
    | succ n ih65 =>
      intro H locs ls v65_1 iv65_1 hH hS hl hn65
      have l1v65_1 := iv65_1.1; have l2v65_1 := iv65_1.2
      refine lv_iload_n hx hb dX11_startAnew_65 rfl (lv_at hl 1 rfl) ?_
      refine lv_aload_n hx hb dX11_startAnew_66 rfl (lv_at hl 0 rfl) ?_
      refine th_get S hK hH inG11 t0 km_0 rfl 13 (by decide) gm_1243 rfl rfl dX11_startAnew_67 (fun v69 hv69 fv69 => ?_)
      obtain ⟨rf70, rfl, trf70⟩ := th_V.ref hv69
      refine lv_aload_n hx hb dX11_startAnew_70 rfl (lv_at hl 0 rfl) ?_
      refine th_get S hK hH inG11 t0 km_0 rfl 41 (by decide) gm_1271 rfl rfl dX11_startAnew_71 (fun v71 hv71 fv71 => ?_)
      obtain ⟨x72, rfl, ix72⟩ := th_V.int hv71
      have kx72a : q 10 ≤ x72.toInt := ix72.1
      have kx72b : x72.toInt ≤ q 10 := ix72.2
      have ix72 : IV x72 0 1 := iv_w ix72 (qkm_10 hq)
      refine th_iald S hK hH trf70 km_5 (th_in (hi := 1) ix72 (by decide)) dX11_startAnew_74 (fun v73 hv73 => ?_)
      obtain ⟨x74, rfl, ix74⟩ := th_bkA hv73 ix72 (by omega)
      have kx74a : q 18 ≤ x74.toInt := ix74.1
      have kx74b : x74.toInt ≤ q 18 := ix74.2
      have ix74 : IV x74 0 8 := iv_w ix74 (qkm_18 hq)
      refine lv_icmp_ge (tgt := 107) hx hb dX11_startAnew_75 (by decide) (fun c75 => ?_) (fun c75 => ?_)
      · skip
        have rlc75 : x74.toInt ≤ v65_1.toInt := iv_le c75
        refine lv_iconst (v := 0) hx hb dX11_startAnew_107 (by decide) ?_
        refine lv_istore_n (lv' := [(1, .int 0), (0, .ref a0)]) hx hb dX11_startAnew_108 rfl hl (by decide) rfl (fun ls hl => ?_)
        exact J109 ((4 + 1 - Int32.toInt 0).toNat + 1) H locs ls 0 (iv_w (iv_c (by decide) : IV 0 0 0) (by decide)) hH hS (lv_sub hl [1, 0] rfl) (Nat.lt_succ_self _)
      · skip
        have rlc75 : v65_1.toInt < x74.toInt := iv_nle c75
        have ir76 : IV v65_1 0 7 := iv_uL iv65_1 ix74 (iv_nle c75) (by decide)
        have ir76a := ir76.1; have ir76b := ir76.2
        have ir77 : IV x74 1 8 := iv_uR iv65_1 ix74 (iv_nle c75) (by decide)
        have ir77a := ir77.1; have ir77b := ir77.2
        refine lv_aload_n hx hb dX11_startAnew_78 rfl (lv_at hl 0 rfl) ?_
        refine th_get S hK hH inG11 t0 km_0 rfl 52 (by decide) gm_1282 rfl rfl dX11_startAnew_79 (fun v78 hv78 fv78 => ?_)
        obtain ⟨rf79, rfl, trf79⟩ := th_V.ref hv78
        refine lv_bipush (v := 15) hx hb dX11_startAnew_82 (by decide) ?_
        refine lv_iload_n hx hb dX11_startAnew_84 rfl (lv_at hl 1 rfl) ?_
        refine lv_iadd hx hb dX11_startAnew_85 ?_
        refine lv_topi (fun x80 ex80 => ?_)
        have ix80 : IV x80 15 22 := by rw [ex80]; exact iv_add (iv_c (by decide) : IV 15 15 15) ir76 (by decide)
        have ux80 : x80.toInt = (15 : Int) + v65_1.toInt := by rw [ex80]; exact iv_addE (by have z1 := ((iv_c (by decide) : IV 15 15 15)).1; have z2 := ((iv_c (by decide) : IV 15 15 15)).2; have z3 := (ir76).1; have z4 := (ir76).2; omega)
        refine lv_aload_n hx hb dX11_startAnew_86 rfl (lv_at hl 0 rfl) ?_
        refine th_get S hK hH inG11 t0 km_0 rfl 23 (by decide) gm_1253 rfl rfl dX11_startAnew_87 (fun v81 hv81 fv81 => ?_)
        obtain ⟨rf82, rfl, trf82⟩ := th_V.ref hv81
        refine lv_bipush (v := 8) hx hb dX11_startAnew_90 (by decide) ?_
        refine lv_aload_n hx hb dX11_startAnew_92 rfl (lv_at hl 0 rfl) ?_
        refine th_get S hK hH inG11 t0 km_0 rfl 41 (by decide) gm_1271 rfl rfl dX11_startAnew_93 (fun v83 hv83 fv83 => ?_)
        obtain ⟨x84, rfl, ix84⟩ := th_V.int hv83
        have kx84a : q 10 ≤ x84.toInt := ix84.1
        have kx84b : x84.toInt ≤ q 10 := ix84.2
        have ix84 : IV x84 0 1 := iv_w ix84 (qkm_10 hq)
        refine lv_imul hx hb dX11_startAnew_96 ?_
        refine lv_topi (fun x85 ex85 => ?_)
        have ix85 : IV x85 0 8 := by rw [ex85]; exact iv_mul (iv_c (by decide) : IV 8 8 8) ix84 (by decide) (by decide)
        have ux85 : x85.toInt = (8 : Int) * x84.toInt := by rw [ex85]; exact iv_mulE (iv_corner ((iv_c (by decide) : IV 8 8 8)).1 ((iv_c (by decide) : IV 8 8 8)).2 (ix84).1 (ix84).2 (by decide))
        refine lv_iload_n hx hb dX11_startAnew_97 rfl (lv_at hl 1 rfl) ?_
        refine lv_iadd hx hb dX11_startAnew_98 ?_
        refine lv_topi (fun x86 ex86 => ?_)
        have ix86 : IV x86 0 15 := by rw [ex86]; exact iv_add ix85 ir76 (by decide)
        have ux86 : x86.toInt = x85.toInt + v65_1.toInt := by rw [ex86]; exact iv_addE (by have z1 := (ix85).1; have z2 := (ix85).2; have z3 := (ir76).1; have z4 := (ir76).2; omega)
        refine th_iald S hK hH trf82 km_15 (th_in (hi := 15) ix86 (by decide)) dX11_startAnew_99 (fun v87 hv87 => ?_)
        obtain ⟨x88, rfl, ix88⟩ := th_V.int hv87
        refine th_iast S hK hH hS ⟨33, by decide, trf79⟩ trf79 km_33 (th_in (hi := 22) (iv_w ix80 (by decide)) (by decide)) (th_iv ix88) dX11_startAnew_100 (fun H locs hH hS hq1 => ?_)
        have f89 := fv78.kept (hq1 _ (th_ne t0 trf79 (by decide)))
        refine th_iinc S dX11_startAnew_101 hl (k := 1) rfl (by decide) ir76 (by decide) (fun x90 ls ex90 ix90 hl => ?_)
        have hl : lv_has ls 2 [(1, .int x90), (0, .ref a0)] := hl
        have ix90 : IV x90 1 8 := ix90
        refine lv_goto (tgt := 65) hx hb dX11_startAnew_104 (by decide) ?_
        exact ih65 H locs ls x90 (iv_w ix90 (by decide)) hH hS (lv_sub hl [1, 0] rfl) (th_up iv65_1 ex90 (by decide) hn65)
  have J23 : ∀ (n : Nat) (H : Heap) (locs : List Loc) (ls : Array Slot) (v23_1 : Int32), IV v23_1 0 3 → th_H D cT T (km q) H → va_S (th_A T [0, 33, 44]) s.heap H locs → lv_has ls 2 [(0, .ref a0), (1, .int v23_1)] → (3 + 1 - Int32.toInt v23_1).toNat < n → W p l e (rmk 1 20) s m [.ref a0].toArray below meth c H locs 0 0 (MQ below (th_QM D cT T (fun v q2 => v = none ∧ qkm q2 ∧ fr [7, 8] q q2 ∧ (q2 7 = 0) ∧ (q2 8 = 0)) [0, 33, 44]) [.ref a0].toArray s 0 0 (th_A T [0, 33, 44])) (F0 m 23 ls []) := by
    intro n
    induction n with
    | zero => intro H locs ls v23_1 iv23_1 hH hS hl hn; exact absurd hn (Nat.not_lt_zero _)
    | succ n ih23 =>
      intro H locs ls v23_1 iv23_1 hH hS hl hn23
      have l1v23_1 := iv23_1.1; have l2v23_1 := iv23_1.2
      refine lv_iload_n hx hb dX11_startAnew_23 rfl (lv_at hl 1 rfl) ?_
      refine lv_aload_n hx hb dX11_startAnew_24 rfl (lv_at hl 0 rfl) ?_
      refine th_get S hK hH inG11 t0 km_0 rfl 11 (by decide) gm_1241 rfl rfl dX11_startAnew_25 (fun v91 hv91 fv91 => ?_)
      obtain ⟨rf92, rfl, trf92⟩ := th_V.ref hv91
      refine lv_aload_n hx hb dX11_startAnew_28 rfl (lv_at hl 0 rfl) ?_
      refine th_get S hK hH inG11 t0 km_0 rfl 41 (by decide) gm_1271 rfl rfl dX11_startAnew_29 (fun v93 hv93 fv93 => ?_)
      obtain ⟨x94, rfl, ix94⟩ := th_V.int hv93
      have kx94a : q 10 ≤ x94.toInt := ix94.1
      have kx94b : x94.toInt ≤ q 10 := ix94.2
      have ix94 : IV x94 0 1 := iv_w ix94 (qkm_10 hq)
      refine th_iald S hK hH trf92 km_3 (th_in (hi := 1) ix94 (by decide)) dX11_startAnew_32 (fun v95 hv95 => ?_)
      obtain ⟨x96, rfl, ix96⟩ := th_bkA hv95 ix94 (by omega)
      have kx96a : q 16 ≤ x96.toInt := ix96.1
      have kx96b : x96.toInt ≤ q 16 := ix96.2
      have ix96 : IV x96 0 3 := iv_w ix96 (qkm_16 hq)
      refine lv_icmp_ge (tgt := 63) hx hb dX11_startAnew_33 (by decide) (fun c97 => ?_) (fun c97 => ?_)
      · skip
        have rlc97 : x96.toInt ≤ v23_1.toInt := iv_le c97
        refine lv_iconst (v := 0) hx hb dX11_startAnew_63 (by decide) ?_
        refine lv_istore_n (lv' := [(1, .int 0), (0, .ref a0)]) hx hb dX11_startAnew_64 rfl hl (by decide) rfl (fun ls hl => ?_)
        exact J65 ((8 + 1 - Int32.toInt 0).toNat + 1) H locs ls 0 (iv_w (iv_c (by decide) : IV 0 0 0) (by decide)) hH hS (lv_sub hl [1, 0] rfl) (Nat.lt_succ_self _)
      · skip
        have rlc97 : v23_1.toInt < x96.toInt := iv_nle c97
        have ir98 : IV v23_1 0 2 := iv_uL iv23_1 ix96 (iv_nle c97) (by decide)
        have ir98a := ir98.1; have ir98b := ir98.2
        have ir99 : IV x96 1 3 := iv_uR iv23_1 ix96 (iv_nle c97) (by decide)
        have ir99a := ir99.1; have ir99b := ir99.2
        refine lv_aload_n hx hb dX11_startAnew_36 rfl (lv_at hl 0 rfl) ?_
        refine th_get S hK hH inG11 t0 km_0 rfl 52 (by decide) gm_1282 rfl rfl dX11_startAnew_37 (fun v100 hv100 fv100 => ?_)
        obtain ⟨rf101, rfl, trf101⟩ := th_V.ref hv100
        refine lv_iconst (v := 0) hx hb dX11_startAnew_40 (by decide) ?_
        refine lv_iload_n hx hb dX11_startAnew_41 rfl (lv_at hl 1 rfl) ?_
        refine lv_iadd hx hb dX11_startAnew_42 ?_
        refine lv_topi (fun x102 ex102 => ?_)
        have ix102 : IV x102 0 2 := by rw [ex102]; exact iv_add (iv_c (by decide) : IV 0 0 0) ir98 (by decide)
        have ux102 : x102.toInt = (0 : Int) + v23_1.toInt := by rw [ex102]; exact iv_addE (by have z1 := ((iv_c (by decide) : IV 0 0 0)).1; have z2 := ((iv_c (by decide) : IV 0 0 0)).2; have z3 := (ir98).1; have z4 := (ir98).2; omega)
        refine lv_aload_n hx hb dX11_startAnew_43 rfl (lv_at hl 0 rfl) ?_
        refine th_get S hK hH inG11 t0 km_0 rfl 18 (by decide) gm_1248 rfl rfl dX11_startAnew_44 (fun v103 hv103 fv103 => ?_)
        obtain ⟨rf104, rfl, trf104⟩ := th_V.ref hv103
        refine lv_iconst (v := 3) hx hb dX11_startAnew_47 (by decide) ?_
        refine lv_aload_n hx hb dX11_startAnew_48 rfl (lv_at hl 0 rfl) ?_
        refine th_get S hK hH inG11 t0 km_0 rfl 41 (by decide) gm_1271 rfl rfl dX11_startAnew_49 (fun v105 hv105 fv105 => ?_)
        obtain ⟨x106, rfl, ix106⟩ := th_V.int hv105
        have kx106a : q 10 ≤ x106.toInt := ix106.1
        have kx106b : x106.toInt ≤ q 10 := ix106.2
        have ix106 : IV x106 0 1 := iv_w ix106 (qkm_10 hq)
        refine lv_imul hx hb dX11_startAnew_52 ?_
        refine lv_topi (fun x107 ex107 => ?_)
        have ix107 : IV x107 0 3 := by rw [ex107]; exact iv_mul (iv_c (by decide) : IV 3 3 3) ix106 (by decide) (by decide)
        have ux107 : x107.toInt = (3 : Int) * x106.toInt := by rw [ex107]; exact iv_mulE (iv_corner ((iv_c (by decide) : IV 3 3 3)).1 ((iv_c (by decide) : IV 3 3 3)).2 (ix106).1 (ix106).2 (by decide))
        refine lv_iload_n hx hb dX11_startAnew_53 rfl (lv_at hl 1 rfl) ?_
        refine lv_iadd hx hb dX11_startAnew_54 ?_
        refine lv_topi (fun x108 ex108 => ?_)
        have ix108 : IV x108 0 5 := by rw [ex108]; exact iv_add ix107 ir98 (by decide)
        have ux108 : x108.toInt = x107.toInt + v23_1.toInt := by rw [ex108]; exact iv_addE (by have z1 := (ix107).1; have z2 := (ix107).2; have z3 := (ir98).1; have z4 := (ir98).2; omega)
        refine th_iald S hK hH trf104 km_10 (th_in (hi := 5) ix108 (by decide)) dX11_startAnew_55 (fun v109 hv109 => ?_)
        obtain ⟨x110, rfl, ix110⟩ := th_V.int hv109
        refine th_iast S hK hH hS ⟨33, by decide, trf101⟩ trf101 km_33 (th_in (hi := 2) ix102 (by decide)) (th_iv ix110) dX11_startAnew_56 (fun H locs hH hS hq1 => ?_)
        have f111 := fv100.kept (hq1 _ (th_ne t0 trf101 (by decide)))
        refine th_iinc S dX11_startAnew_57 hl (k := 1) rfl (by decide) ir98 (by decide) (fun x112 ls ex112 ix112 hl => ?_)
        have hl : lv_has ls 2 [(1, .int x112), (0, .ref a0)] := hl
        have ix112 : IV x112 1 3 := ix112
        refine lv_goto (tgt := 23) hx hb dX11_startAnew_60 (by decide) ?_
        exact ih23 H locs ls x112 (iv_w ix112 (by decide)) hH hS (lv_sub hl [1, 0] rfl) (th_up iv23_1 ex112 (by decide) hn23)
  have J2 : ∀ (n : Nat) (H : Heap) (locs : List Loc) (ls : Array Slot) (v2_1 : Int32), IV v2_1 0 43 → th_H D cT T (km q) H → va_S (th_A T [0, 33, 44]) s.heap H locs → lv_has ls 2 [(0, .ref a0), (1, .int v2_1)] → (43 + 1 - Int32.toInt v2_1).toNat < n → W p l e (rmk 1 20) s m [.ref a0].toArray below meth c H locs 0 0 (MQ below (th_QM D cT T (fun v q2 => v = none ∧ qkm q2 ∧ fr [7, 8] q q2 ∧ (q2 7 = 0) ∧ (q2 8 = 0)) [0, 33, 44]) [.ref a0].toArray s 0 0 (th_A T [0, 33, 44])) (F0 m 2 ls []) := by
    intro n
    induction n with
    | zero => intro H locs ls v2_1 iv2_1 hH hS hl hn; exact absurd hn (Nat.not_lt_zero _)
    | succ n ih2 =>
      intro H locs ls v2_1 iv2_1 hH hS hl hn2
      have l1v2_1 := iv2_1.1; have l2v2_1 := iv2_1.2
      refine lv_iload_n hx hb dX11_startAnew_2 rfl (lv_at hl 1 rfl) ?_
      refine lv_bipush (v := 43) hx hb dX11_startAnew_3 (by decide) ?_
      refine lv_icmp_ge (tgt := 21) hx hb dX11_startAnew_5 (by decide) (fun c113 => ?_) (fun c113 => ?_)
      · skip
        have rlc113 : (43 : Int) ≤ v2_1.toInt := iv_le c113
        have ir114 : IV v2_1 43 43 := iv_vR (iv_c (by decide) : IV 43 43 43) iv2_1 (iv_le c113) (by decide)
        have ir114a := ir114.1; have ir114b := ir114.2
        refine lv_iconst (v := 0) hx hb dX11_startAnew_21 (by decide) ?_
        refine lv_istore_n (lv' := [(1, .int 0), (0, .ref a0)]) hx hb dX11_startAnew_22 rfl hl (by decide) rfl (fun ls hl => ?_)
        exact J23 ((3 + 1 - Int32.toInt 0).toNat + 1) H locs ls 0 (iv_w (iv_c (by decide) : IV 0 0 0) (by decide)) hH hS (lv_sub hl [1, 0] rfl) (Nat.lt_succ_self _)
      · skip
        have rlc113 : v2_1.toInt < (43 : Int) := iv_nle c113
        have ir115 : IV v2_1 0 42 := iv_uL iv2_1 (iv_c (by decide) : IV 43 43 43) (iv_nle c113) (by decide)
        have ir115a := ir115.1; have ir115b := ir115.2
        refine lv_aload_n hx hb dX11_startAnew_8 rfl (lv_at hl 0 rfl) ?_
        refine th_get S hK hH inG11 t0 km_0 rfl 52 (by decide) gm_1282 rfl rfl dX11_startAnew_9 (fun v116 hv116 fv116 => ?_)
        obtain ⟨rf117, rfl, trf117⟩ := th_V.ref hv116
        refine lv_iload_n hx hb dX11_startAnew_12 rfl (lv_at hl 1 rfl) ?_
        refine lv_iconst (v := 0) hx hb dX11_startAnew_13 (by decide) ?_
        refine th_iast S hK hH hS ⟨33, by decide, trf117⟩ trf117 km_33 (th_in (hi := 42) ir115 (by decide)) (th_iv (iv_top _)) dX11_startAnew_14 (fun H locs hH hS hq1 => ?_)
        have f118 := fv116.kept (hq1 _ (th_ne t0 trf117 (by decide)))
        refine th_iinc S dX11_startAnew_15 hl (k := 1) rfl (by decide) ir115 (by decide) (fun x119 ls ex119 ix119 hl => ?_)
        have hl : lv_has ls 2 [(1, .int x119), (0, .ref a0)] := hl
        have ix119 : IV x119 1 43 := ix119
        refine lv_goto (tgt := 2) hx hb dX11_startAnew_18 (by decide) ?_
        exact ih2 H locs ls x119 (iv_w ix119 (by decide)) hH hS (lv_sub hl [1, 0] rfl) (th_up iv2_1 ex119 (by decide) hn2)
  have J0 : ∀ (H : Heap) (locs : List Loc) (ls : Array Slot), th_H D cT T (km q) H → va_S (th_A T [0, 33, 44]) s.heap H locs → lv_has ls 2 [(0, .ref a0)] → W p l e (rmk 1 20) s m [.ref a0].toArray below meth c H locs 0 0 (MQ below (th_QM D cT T (fun v q2 => v = none ∧ qkm q2 ∧ fr [7, 8] q q2 ∧ (q2 7 = 0) ∧ (q2 8 = 0)) [0, 33, 44]) [.ref a0].toArray s 0 0 (th_A T [0, 33, 44])) (F0 m 0 ls []) := by
    intro H locs ls hH hS hl
    refine lv_iconst (v := 0) hx hb dX11_startAnew_0 (by decide) ?_
    refine lv_istore_n (lv' := [(1, .int 0), (0, .ref a0)]) hx hb dX11_startAnew_1 rfl hl (by decide) rfl (fun ls hl => ?_)
    exact J2 ((43 + 1 - Int32.toInt 0).toNat + 1) H locs ls 0 (iv_w (iv_c (by decide) : IV 0 0 0) (by decide)) hH hS (lv_sub hl [1, 0] rfl) (Nat.lt_succ_self _)
  exact J0 s.heap [] ls hH va_S.rf hl

set_option maxRecDepth 100000 in
theorem m_X11_two (l : Launch) (D : va_G) (cT : Nat → ClassId) (T : Nat → Option Nat) (q : Nat → Int) (hT : tokm T) (hq : qkm q) (y0 : Int32) (j0 : IV y0 (-2147483648) 2147483647) (y1 : Int32) (j1 : IV y1 (-2147483648) 2147483647) (y2 : Int32) (j2 : IV y2 (-2147483648) 2147483647) : th_Met l D cT T (km q) yX11_two cX11_two 3 (some .int) (rmk 0 0) [.int y0, .int y1, .int y2] (th_R T (some (.inl (-2147483648, 2147483647)))) [] := by
  refine th_start (by decide) (Nat.le_of_ble_eq_true rfl) ?_
  intro p e s m below meth c ls S hK hH hr hlocks hnm hl
  have hx := S.1
  have hb := S.2.1
  have hl : lv_has ls 3 [(0, .int y0), (1, .int y1), (2, .int y2)] := hl
  have J216_s0_0 : ∀ (H : Heap) (locs : List Loc) (ls : Array Slot), th_H D cT T (km q) H → va_S (th_A T []) s.heap H locs → lv_has ls 3 [] → W p l e (rmk 0 0) s m [.int y0, .int y1, .int y2].toArray below meth c H locs 0 0 (MQ below (th_Q D cT T (km q) (th_R T (some (.inl (-2147483648, 2147483647)))) []) [.int y0, .int y1, .int y2].toArray s 0 0 (th_A T [])) (F0 m 216 ls [.int 0]) := by
    intro H locs ls hH hS hl
    exact th_iret S hK hH hS hr hlocks (th_R.i (iv_top _)) dX11_two_216
  have J216_s0_1 : ∀ (H : Heap) (locs : List Loc) (ls : Array Slot), th_H D cT T (km q) H → va_S (th_A T []) s.heap H locs → lv_has ls 3 [] → W p l e (rmk 0 0) s m [.int y0, .int y1, .int y2].toArray below meth c H locs 0 0 (MQ below (th_Q D cT T (km q) (th_R T (some (.inl (-2147483648, 2147483647)))) []) [.int y0, .int y1, .int y2].toArray s 0 0 (th_A T [])) (F0 m 216 ls [.int 1]) := by
    intro H locs ls hH hS hl
    exact th_iret S hK hH hS hr hlocks (th_R.i (iv_top _)) dX11_two_216
  have J211 : ∀ (H : Heap) (locs : List Loc) (ls : Array Slot), th_H D cT T (km q) H → va_S (th_A T []) s.heap H locs → lv_has ls 3 [] → W p l e (rmk 0 0) s m [.int y0, .int y1, .int y2].toArray below meth c H locs 0 0 (MQ below (th_Q D cT T (km q) (th_R T (some (.inl (-2147483648, 2147483647)))) []) [.int y0, .int y1, .int y2].toArray s 0 0 (th_A T [])) (F0 m 211 ls []) := by
    intro H locs ls hH hS hl
    refine lv_iconst (v := 1) hx hb dX11_two_211 (by decide) ?_
    refine lv_goto (tgt := 216) hx hb dX11_two_212 (by decide) ?_
    exact J216_s0_1 H locs ls  hH hS (lv_sub hl [] rfl)
  have J202_s0_0 : ∀ (H : Heap) (locs : List Loc) (ls : Array Slot), th_H D cT T (km q) H → va_S (th_A T []) s.heap H locs → lv_has ls 3 [] → W p l e (rmk 0 0) s m [.int y0, .int y1, .int y2].toArray below meth c H locs 0 0 (MQ below (th_Q D cT T (km q) (th_R T (some (.inl (-2147483648, 2147483647)))) []) [.int y0, .int y1, .int y2].toArray s 0 0 (th_A T [])) (F0 m 202 ls [.int 0]) := by
    intro H locs ls hH hS hl
    exact th_iret S hK hH hS hr hlocks (th_R.i (iv_top _)) dX11_two_202
  have J202_s0_1 : ∀ (H : Heap) (locs : List Loc) (ls : Array Slot), th_H D cT T (km q) H → va_S (th_A T []) s.heap H locs → lv_has ls 3 [] → W p l e (rmk 0 0) s m [.int y0, .int y1, .int y2].toArray below meth c H locs 0 0 (MQ below (th_Q D cT T (km q) (th_R T (some (.inl (-2147483648, 2147483647)))) []) [.int y0, .int y1, .int y2].toArray s 0 0 (th_A T [])) (F0 m 202 ls [.int 1]) := by
    intro H locs ls hH hS hl
    exact th_iret S hK hH hS hr hlocks (th_R.i (iv_top _)) dX11_two_202
  have J201 : ∀ (H : Heap) (locs : List Loc) (ls : Array Slot), th_H D cT T (km q) H → va_S (th_A T []) s.heap H locs → lv_has ls 3 [] → W p l e (rmk 0 0) s m [.int y0, .int y1, .int y2].toArray below meth c H locs 0 0 (MQ below (th_Q D cT T (km q) (th_R T (some (.inl (-2147483648, 2147483647)))) []) [.int y0, .int y1, .int y2].toArray s 0 0 (th_A T [])) (F0 m 201 ls []) := by
    intro H locs ls hH hS hl
    refine lv_iconst (v := 0) hx hb dX11_two_201 (by decide) ?_
    exact J202_s0_0 H locs ls  hH hS (lv_sub hl [] rfl)
  have J188_s0_0 : ∀ (H : Heap) (locs : List Loc) (ls : Array Slot), th_H D cT T (km q) H → va_S (th_A T []) s.heap H locs → lv_has ls 3 [] → W p l e (rmk 0 0) s m [.int y0, .int y1, .int y2].toArray below meth c H locs 0 0 (MQ below (th_Q D cT T (km q) (th_R T (some (.inl (-2147483648, 2147483647)))) []) [.int y0, .int y1, .int y2].toArray s 0 0 (th_A T [])) (F0 m 188 ls [.int 0]) := by
    intro H locs ls hH hS hl
    exact th_iret S hK hH hS hr hlocks (th_R.i (iv_top _)) dX11_two_188
  have J188_s0_1 : ∀ (H : Heap) (locs : List Loc) (ls : Array Slot), th_H D cT T (km q) H → va_S (th_A T []) s.heap H locs → lv_has ls 3 [] → W p l e (rmk 0 0) s m [.int y0, .int y1, .int y2].toArray below meth c H locs 0 0 (MQ below (th_Q D cT T (km q) (th_R T (some (.inl (-2147483648, 2147483647)))) []) [.int y0, .int y1, .int y2].toArray s 0 0 (th_A T [])) (F0 m 188 ls [.int 1]) := by
    intro H locs ls hH hS hl
    exact th_iret S hK hH hS hr hlocks (th_R.i (iv_top _)) dX11_two_188
  have J177_s0_0 : ∀ (H : Heap) (locs : List Loc) (ls : Array Slot), th_H D cT T (km q) H → va_S (th_A T []) s.heap H locs → lv_has ls 3 [] → W p l e (rmk 0 0) s m [.int y0, .int y1, .int y2].toArray below meth c H locs 0 0 (MQ below (th_Q D cT T (km q) (th_R T (some (.inl (-2147483648, 2147483647)))) []) [.int y0, .int y1, .int y2].toArray s 0 0 (th_A T [])) (F0 m 177 ls [.int 0]) := by
    intro H locs ls hH hS hl
    exact th_iret S hK hH hS hr hlocks (th_R.i (iv_top _)) dX11_two_177
  have J177_s0_1 : ∀ (H : Heap) (locs : List Loc) (ls : Array Slot), th_H D cT T (km q) H → va_S (th_A T []) s.heap H locs → lv_has ls 3 [] → W p l e (rmk 0 0) s m [.int y0, .int y1, .int y2].toArray below meth c H locs 0 0 (MQ below (th_Q D cT T (km q) (th_R T (some (.inl (-2147483648, 2147483647)))) []) [.int y0, .int y1, .int y2].toArray s 0 0 (th_A T [])) (F0 m 177 ls [.int 1]) := by
    intro H locs ls hH hS hl
    exact th_iret S hK hH hS hr hlocks (th_R.i (iv_top _)) dX11_two_177
  have J166_s0_0 : ∀ (H : Heap) (locs : List Loc) (ls : Array Slot), th_H D cT T (km q) H → va_S (th_A T []) s.heap H locs → lv_has ls 3 [] → W p l e (rmk 0 0) s m [.int y0, .int y1, .int y2].toArray below meth c H locs 0 0 (MQ below (th_Q D cT T (km q) (th_R T (some (.inl (-2147483648, 2147483647)))) []) [.int y0, .int y1, .int y2].toArray s 0 0 (th_A T [])) (F0 m 166 ls [.int 0]) := by
    intro H locs ls hH hS hl
    exact th_iret S hK hH hS hr hlocks (th_R.i (iv_top _)) dX11_two_166
  have J166_s0_1 : ∀ (H : Heap) (locs : List Loc) (ls : Array Slot), th_H D cT T (km q) H → va_S (th_A T []) s.heap H locs → lv_has ls 3 [] → W p l e (rmk 0 0) s m [.int y0, .int y1, .int y2].toArray below meth c H locs 0 0 (MQ below (th_Q D cT T (km q) (th_R T (some (.inl (-2147483648, 2147483647)))) []) [.int y0, .int y1, .int y2].toArray s 0 0 (th_A T [])) (F0 m 166 ls [.int 1]) := by
    intro H locs ls hH hS hl
    exact th_iret S hK hH hS hr hlocks (th_R.i (iv_top _)) dX11_two_166
  have J155 : ∀ (H : Heap) (locs : List Loc) (ls : Array Slot) (w155_0 : Int32), IV w155_0 (-2147483648) 2147483647 → th_H D cT T (km q) H → va_S (th_A T []) s.heap H locs → lv_has ls 3 [] → W p l e (rmk 0 0) s m [.int y0, .int y1, .int y2].toArray below meth c H locs 0 0 (MQ below (th_Q D cT T (km q) (th_R T (some (.inl (-2147483648, 2147483647)))) []) [.int y0, .int y1, .int y2].toArray s 0 0 (th_A T [])) (F0 m 155 ls [.int w155_0]) := by
    intro H locs ls w155_0 iw155_0 hH hS hl
    exact th_iret S hK hH hS hr hlocks (th_R.i iw155_0) dX11_two_155
  have J155_s0_0 : ∀ (H : Heap) (locs : List Loc) (ls : Array Slot), th_H D cT T (km q) H → va_S (th_A T []) s.heap H locs → lv_has ls 3 [] → W p l e (rmk 0 0) s m [.int y0, .int y1, .int y2].toArray below meth c H locs 0 0 (MQ below (th_Q D cT T (km q) (th_R T (some (.inl (-2147483648, 2147483647)))) []) [.int y0, .int y1, .int y2].toArray s 0 0 (th_A T [])) (F0 m 155 ls [.int 0]) := by
    intro H locs ls hH hS hl
    exact th_iret S hK hH hS hr hlocks (th_R.i (iv_top _)) dX11_two_155
  have J143 : ∀ (H : Heap) (locs : List Loc) (ls : Array Slot) (w143_0 : Int32), IV w143_0 (-2147483648) 2147483647 → th_H D cT T (km q) H → va_S (th_A T []) s.heap H locs → lv_has ls 3 [] → W p l e (rmk 0 0) s m [.int y0, .int y1, .int y2].toArray below meth c H locs 0 0 (MQ below (th_Q D cT T (km q) (th_R T (some (.inl (-2147483648, 2147483647)))) []) [.int y0, .int y1, .int y2].toArray s 0 0 (th_A T [])) (F0 m 143 ls [.int w143_0]) := by
    intro H locs ls w143_0 iw143_0 hH hS hl
    exact th_iret S hK hH hS hr hlocks (th_R.i iw143_0) dX11_two_143
  have J143_s0_0 : ∀ (H : Heap) (locs : List Loc) (ls : Array Slot), th_H D cT T (km q) H → va_S (th_A T []) s.heap H locs → lv_has ls 3 [] → W p l e (rmk 0 0) s m [.int y0, .int y1, .int y2].toArray below meth c H locs 0 0 (MQ below (th_Q D cT T (km q) (th_R T (some (.inl (-2147483648, 2147483647)))) []) [.int y0, .int y1, .int y2].toArray s 0 0 (th_A T [])) (F0 m 143 ls [.int 0]) := by
    intro H locs ls hH hS hl
    exact th_iret S hK hH hS hr hlocks (th_R.i (iv_top _)) dX11_two_143
  have J0 : ∀ (H : Heap) (locs : List Loc) (ls : Array Slot), th_H D cT T (km q) H → va_S (th_A T []) s.heap H locs → lv_has ls 3 [(0, .int y0), (1, .int y1), (2, .int y2)] → W p l e (rmk 0 0) s m [.int y0, .int y1, .int y2].toArray below meth c H locs 0 0 (MQ below (th_Q D cT T (km q) (th_R T (some (.inl (-2147483648, 2147483647)))) []) [.int y0, .int y1, .int y2].toArray s 0 0 (th_A T [])) (F0 m 0 ls []) := by
    intro H locs ls hH hS hl
    refine lv_iload_n hx hb dX11_two_0 rfl (lv_at hl 0 rfl) ?_
    by_cases c1 : y0.toInt < 37 ∨ 62 < y0.toInt
    · refine lv_tableOut (tgt := 203) hx hb dX11_two_1 c1 (by decide) ?_
      refine lv_iload_n hx hb dX11_two_203 rfl (lv_at hl 1 rfl) ?_
      refine lv_if_ne (tgt := 211) hx hb dX11_two_204 (by decide) (fun c2 => ?_) (fun c2 => ?_)
      · skip
        have rlc2 : y1.toInt ≠ (0 : Int) := iv_ne c2
        exact J211 H locs ls  hH hS (lv_sub hl [] rfl)
      · skip
        have rlc2 : y1.toInt = (0 : Int) := congrArg Int32.toInt c2
        have ir3 : IV y1 0 0 := iv_eL c2 (iv_c (by decide) : IV 0 0 0)
        have ir3a := ir3.1; have ir3b := ir3.2
        refine lv_iload_n hx hb dX11_two_207 rfl (lv_at hl 2 rfl) ?_
        refine lv_if_eq (tgt := 215) hx hb dX11_two_208 (by decide) (fun c4 => ?_) (fun c4 => ?_)
        · skip
          have rlc4 : y2.toInt = (0 : Int) := congrArg Int32.toInt c4
          have ir5 : IV y2 0 0 := iv_eL c4 (iv_c (by decide) : IV 0 0 0)
          have ir5a := ir5.1; have ir5b := ir5.2
          refine lv_iconst (v := 0) hx hb dX11_two_215 (by decide) ?_
          exact J216_s0_0 H locs ls  hH hS (lv_sub hl [] rfl)
        · skip
          have rlc4 : y2.toInt ≠ (0 : Int) := iv_ne c4
          exact J211 H locs ls  hH hS (lv_sub hl [] rfl)
    · rcases (show y0.toInt = 37 ∨ y0.toInt = 38 ∨ y0.toInt = 39 ∨ y0.toInt = 40 ∨ y0.toInt = 41 ∨ y0.toInt = 42 ∨ y0.toInt = 43 ∨ y0.toInt = 44 ∨ y0.toInt = 45 ∨ y0.toInt = 46 ∨ y0.toInt = 47 ∨ y0.toInt = 48 ∨ y0.toInt = 49 ∨ y0.toInt = 50 ∨ y0.toInt = 51 ∨ y0.toInt = 52 ∨ y0.toInt = 53 ∨ y0.toInt = 54 ∨ y0.toInt = 55 ∨ y0.toInt = 56 ∨ y0.toInt = 57 ∨ y0.toInt = 58 ∨ y0.toInt = 59 ∨ y0.toInt = 60 ∨ y0.toInt = 61 ∨ y0.toInt = 62 by omega) with c1b | c1b | c1b | c1b | c1b | c1b | c1b | c1b | c1b | c1b | c1b | c1b | c1b | c1b | c1b | c1b | c1b | c1b | c1b | c1b | c1b | c1b | c1b | c1b | c1b | c1b
      · refine lv_tableIn (tgt := 144) (off := 143) hx hb dX11_two_1 (by omega) (by omega) (by rw [c1b]; rfl) (by decide) ?_
        refine lv_iload_n hx hb dX11_two_144 rfl (lv_at hl 2 rfl) ?_
        refine lv_if_ne (tgt := 152) hx hb dX11_two_145 (by decide) (fun c6 => ?_) (fun c6 => ?_)
        · skip
          have rlc6 : y2.toInt ≠ (0 : Int) := iv_ne c6
          refine lv_iload_n hx hb dX11_two_152 rfl (lv_at hl 1 rfl) ?_
          refine lv_iload_n hx hb dX11_two_153 rfl (lv_at hl 2 rfl) ?_
          refine lv_irem hx hb dX11_two_154 c6 ?_
          refine lv_topi (fun x7 ex7 => ?_)
          have ix7 := iv_top x7
          exact J155 H locs ls x7 ix7 hH hS (lv_sub hl [] rfl)
        · skip
          have rlc6 : y2.toInt = (0 : Int) := congrArg Int32.toInt c6
          have ir8 : IV y2 0 0 := iv_eL c6 (iv_c (by decide) : IV 0 0 0)
          have ir8a := ir8.1; have ir8b := ir8.2
          refine lv_iconst (v := 0) hx hb dX11_two_148 (by decide) ?_
          refine lv_goto (tgt := 155) hx hb dX11_two_149 (by decide) ?_
          exact J155_s0_0 H locs ls  hH hS (lv_sub hl [] rfl)
      · refine lv_tableIn (tgt := 189) (off := 188) hx hb dX11_two_1 (by omega) (by omega) (by rw [c1b]; rfl) (by decide) ?_
        refine lv_iload_n hx hb dX11_two_189 rfl (lv_at hl 1 rfl) ?_
        refine lv_if_eq (tgt := 201) hx hb dX11_two_190 (by decide) (fun c9 => ?_) (fun c9 => ?_)
        · skip
          have rlc9 : y1.toInt = (0 : Int) := congrArg Int32.toInt c9
          have ir10 : IV y1 0 0 := iv_eL c9 (iv_c (by decide) : IV 0 0 0)
          have ir10a := ir10.1; have ir10b := ir10.2
          exact J201 H locs ls  hH hS (lv_sub hl [] rfl)
        · skip
          have rlc9 : y1.toInt ≠ (0 : Int) := iv_ne c9
          refine lv_iload_n hx hb dX11_two_193 rfl (lv_at hl 2 rfl) ?_
          refine lv_if_eq (tgt := 201) hx hb dX11_two_194 (by decide) (fun c11 => ?_) (fun c11 => ?_)
          · skip
            have rlc11 : y2.toInt = (0 : Int) := congrArg Int32.toInt c11
            have ir12 : IV y2 0 0 := iv_eL c11 (iv_c (by decide) : IV 0 0 0)
            have ir12a := ir12.1; have ir12b := ir12.2
            exact J201 H locs ls  hH hS (lv_sub hl [] rfl)
          · skip
            have rlc11 : y2.toInt ≠ (0 : Int) := iv_ne c11
            refine lv_iconst (v := 1) hx hb dX11_two_197 (by decide) ?_
            refine lv_goto (tgt := 202) hx hb dX11_two_198 (by decide) ?_
            exact J202_s0_1 H locs ls  hH hS (lv_sub hl [] rfl)
      · refine lv_tableIn (tgt := 203) (off := 202) hx hb dX11_two_1 (by omega) (by omega) (by rw [c1b]; rfl) (by decide) ?_
        refine lv_iload_n hx hb dX11_two_203 rfl (lv_at hl 1 rfl) ?_
        refine lv_if_ne (tgt := 211) hx hb dX11_two_204 (by decide) (fun c13 => ?_) (fun c13 => ?_)
        · skip
          have rlc13 : y1.toInt ≠ (0 : Int) := iv_ne c13
          exact J211 H locs ls  hH hS (lv_sub hl [] rfl)
        · skip
          have rlc13 : y1.toInt = (0 : Int) := congrArg Int32.toInt c13
          have ir14 : IV y1 0 0 := iv_eL c13 (iv_c (by decide) : IV 0 0 0)
          have ir14a := ir14.1; have ir14b := ir14.2
          refine lv_iload_n hx hb dX11_two_207 rfl (lv_at hl 2 rfl) ?_
          refine lv_if_eq (tgt := 215) hx hb dX11_two_208 (by decide) (fun c15 => ?_) (fun c15 => ?_)
          · skip
            have rlc15 : y2.toInt = (0 : Int) := congrArg Int32.toInt c15
            have ir16 : IV y2 0 0 := iv_eL c15 (iv_c (by decide) : IV 0 0 0)
            have ir16a := ir16.1; have ir16b := ir16.2
            refine lv_iconst (v := 0) hx hb dX11_two_215 (by decide) ?_
            exact J216_s0_0 H locs ls  hH hS (lv_sub hl [] rfl)
          · skip
            have rlc15 : y2.toInt ≠ (0 : Int) := iv_ne c15
            exact J211 H locs ls  hH hS (lv_sub hl [] rfl)
      · refine lv_tableIn (tgt := 203) (off := 202) hx hb dX11_two_1 (by omega) (by omega) (by rw [c1b]; rfl) (by decide) ?_
        refine lv_iload_n hx hb dX11_two_203 rfl (lv_at hl 1 rfl) ?_
        refine lv_if_ne (tgt := 211) hx hb dX11_two_204 (by decide) (fun c17 => ?_) (fun c17 => ?_)
        · skip
          have rlc17 : y1.toInt ≠ (0 : Int) := iv_ne c17
          exact J211 H locs ls  hH hS (lv_sub hl [] rfl)
        · skip
          have rlc17 : y1.toInt = (0 : Int) := congrArg Int32.toInt c17
          have ir18 : IV y1 0 0 := iv_eL c17 (iv_c (by decide) : IV 0 0 0)
          have ir18a := ir18.1; have ir18b := ir18.2
          refine lv_iload_n hx hb dX11_two_207 rfl (lv_at hl 2 rfl) ?_
          refine lv_if_eq (tgt := 215) hx hb dX11_two_208 (by decide) (fun c19 => ?_) (fun c19 => ?_)
          · skip
            have rlc19 : y2.toInt = (0 : Int) := congrArg Int32.toInt c19
            have ir20 : IV y2 0 0 := iv_eL c19 (iv_c (by decide) : IV 0 0 0)
            have ir20a := ir20.1; have ir20b := ir20.2
            refine lv_iconst (v := 0) hx hb dX11_two_215 (by decide) ?_
            exact J216_s0_0 H locs ls  hH hS (lv_sub hl [] rfl)
          · skip
            have rlc19 : y2.toInt ≠ (0 : Int) := iv_ne c19
            exact J211 H locs ls  hH hS (lv_sub hl [] rfl)
      · refine lv_tableIn (tgt := 203) (off := 202) hx hb dX11_two_1 (by omega) (by omega) (by rw [c1b]; rfl) (by decide) ?_
        refine lv_iload_n hx hb dX11_two_203 rfl (lv_at hl 1 rfl) ?_
        refine lv_if_ne (tgt := 211) hx hb dX11_two_204 (by decide) (fun c21 => ?_) (fun c21 => ?_)
        · skip
          have rlc21 : y1.toInt ≠ (0 : Int) := iv_ne c21
          exact J211 H locs ls  hH hS (lv_sub hl [] rfl)
        · skip
          have rlc21 : y1.toInt = (0 : Int) := congrArg Int32.toInt c21
          have ir22 : IV y1 0 0 := iv_eL c21 (iv_c (by decide) : IV 0 0 0)
          have ir22a := ir22.1; have ir22b := ir22.2
          refine lv_iload_n hx hb dX11_two_207 rfl (lv_at hl 2 rfl) ?_
          refine lv_if_eq (tgt := 215) hx hb dX11_two_208 (by decide) (fun c23 => ?_) (fun c23 => ?_)
          · skip
            have rlc23 : y2.toInt = (0 : Int) := congrArg Int32.toInt c23
            have ir24 : IV y2 0 0 := iv_eL c23 (iv_c (by decide) : IV 0 0 0)
            have ir24a := ir24.1; have ir24b := ir24.2
            refine lv_iconst (v := 0) hx hb dX11_two_215 (by decide) ?_
            exact J216_s0_0 H locs ls  hH hS (lv_sub hl [] rfl)
          · skip
            have rlc23 : y2.toInt ≠ (0 : Int) := iv_ne c23
            exact J211 H locs ls  hH hS (lv_sub hl [] rfl)
      · refine lv_tableIn (tgt := 128) (off := 127) hx hb dX11_two_1 (by omega) (by omega) (by rw [c1b]; rfl) (by decide) ?_
        refine lv_iload_n hx hb dX11_two_128 rfl (lv_at hl 1 rfl) ?_
        refine lv_iload_n hx hb dX11_two_129 rfl (lv_at hl 2 rfl) ?_
        refine lv_imul hx hb dX11_two_130 ?_
        refine lv_topi (fun x25 ex25 => ?_)
        have ix25 := iv_top x25
        exact th_iret S hK hH hS hr hlocks (th_R.i ix25) dX11_two_131
      · refine lv_tableIn (tgt := 120) (off := 119) hx hb dX11_two_1 (by omega) (by omega) (by rw [c1b]; rfl) (by decide) ?_
        refine lv_iload_n hx hb dX11_two_120 rfl (lv_at hl 1 rfl) ?_
        refine lv_iload_n hx hb dX11_two_121 rfl (lv_at hl 2 rfl) ?_
        refine lv_iadd hx hb dX11_two_122 ?_
        refine lv_topi (fun x26 ex26 => ?_)
        have ix26 := iv_top x26
        exact th_iret S hK hH hS hr hlocks (th_R.i ix26) dX11_two_123
      · refine lv_tableIn (tgt := 203) (off := 202) hx hb dX11_two_1 (by omega) (by omega) (by rw [c1b]; rfl) (by decide) ?_
        refine lv_iload_n hx hb dX11_two_203 rfl (lv_at hl 1 rfl) ?_
        refine lv_if_ne (tgt := 211) hx hb dX11_two_204 (by decide) (fun c27 => ?_) (fun c27 => ?_)
        · skip
          have rlc27 : y1.toInt ≠ (0 : Int) := iv_ne c27
          exact J211 H locs ls  hH hS (lv_sub hl [] rfl)
        · skip
          have rlc27 : y1.toInt = (0 : Int) := congrArg Int32.toInt c27
          have ir28 : IV y1 0 0 := iv_eL c27 (iv_c (by decide) : IV 0 0 0)
          have ir28a := ir28.1; have ir28b := ir28.2
          refine lv_iload_n hx hb dX11_two_207 rfl (lv_at hl 2 rfl) ?_
          refine lv_if_eq (tgt := 215) hx hb dX11_two_208 (by decide) (fun c29 => ?_) (fun c29 => ?_)
          · skip
            have rlc29 : y2.toInt = (0 : Int) := congrArg Int32.toInt c29
            have ir30 : IV y2 0 0 := iv_eL c29 (iv_c (by decide) : IV 0 0 0)
            have ir30a := ir30.1; have ir30b := ir30.2
            refine lv_iconst (v := 0) hx hb dX11_two_215 (by decide) ?_
            exact J216_s0_0 H locs ls  hH hS (lv_sub hl [] rfl)
          · skip
            have rlc29 : y2.toInt ≠ (0 : Int) := iv_ne c29
            exact J211 H locs ls  hH hS (lv_sub hl [] rfl)
      · refine lv_tableIn (tgt := 124) (off := 123) hx hb dX11_two_1 (by omega) (by omega) (by rw [c1b]; rfl) (by decide) ?_
        refine lv_iload_n hx hb dX11_two_124 rfl (lv_at hl 1 rfl) ?_
        refine lv_iload_n hx hb dX11_two_125 rfl (lv_at hl 2 rfl) ?_
        refine lv_isub hx hb dX11_two_126 ?_
        refine lv_topi (fun x31 ex31 => ?_)
        have ix31 := iv_top x31
        exact th_iret S hK hH hS hr hlocks (th_R.i ix31) dX11_two_127
      · refine lv_tableIn (tgt := 203) (off := 202) hx hb dX11_two_1 (by omega) (by omega) (by rw [c1b]; rfl) (by decide) ?_
        refine lv_iload_n hx hb dX11_two_203 rfl (lv_at hl 1 rfl) ?_
        refine lv_if_ne (tgt := 211) hx hb dX11_two_204 (by decide) (fun c32 => ?_) (fun c32 => ?_)
        · skip
          have rlc32 : y1.toInt ≠ (0 : Int) := iv_ne c32
          exact J211 H locs ls  hH hS (lv_sub hl [] rfl)
        · skip
          have rlc32 : y1.toInt = (0 : Int) := congrArg Int32.toInt c32
          have ir33 : IV y1 0 0 := iv_eL c32 (iv_c (by decide) : IV 0 0 0)
          have ir33a := ir33.1; have ir33b := ir33.2
          refine lv_iload_n hx hb dX11_two_207 rfl (lv_at hl 2 rfl) ?_
          refine lv_if_eq (tgt := 215) hx hb dX11_two_208 (by decide) (fun c34 => ?_) (fun c34 => ?_)
          · skip
            have rlc34 : y2.toInt = (0 : Int) := congrArg Int32.toInt c34
            have ir35 : IV y2 0 0 := iv_eL c34 (iv_c (by decide) : IV 0 0 0)
            have ir35a := ir35.1; have ir35b := ir35.2
            refine lv_iconst (v := 0) hx hb dX11_two_215 (by decide) ?_
            exact J216_s0_0 H locs ls  hH hS (lv_sub hl [] rfl)
          · skip
            have rlc34 : y2.toInt ≠ (0 : Int) := iv_ne c34
            exact J211 H locs ls  hH hS (lv_sub hl [] rfl)
      · refine lv_tableIn (tgt := 132) (off := 131) hx hb dX11_two_1 (by omega) (by omega) (by rw [c1b]; rfl) (by decide) ?_
        refine lv_iload_n hx hb dX11_two_132 rfl (lv_at hl 2 rfl) ?_
        refine lv_if_ne (tgt := 140) hx hb dX11_two_133 (by decide) (fun c36 => ?_) (fun c36 => ?_)
        · skip
          have rlc36 : y2.toInt ≠ (0 : Int) := iv_ne c36
          refine lv_iload_n hx hb dX11_two_140 rfl (lv_at hl 1 rfl) ?_
          refine lv_iload_n hx hb dX11_two_141 rfl (lv_at hl 2 rfl) ?_
          refine lv_idiv hx hb dX11_two_142 c36 ?_
          refine lv_topi (fun x37 ex37 => ?_)
          have ix37 := iv_top x37
          exact J143 H locs ls x37 ix37 hH hS (lv_sub hl [] rfl)
        · skip
          have rlc36 : y2.toInt = (0 : Int) := congrArg Int32.toInt c36
          have ir38 : IV y2 0 0 := iv_eL c36 (iv_c (by decide) : IV 0 0 0)
          have ir38a := ir38.1; have ir38b := ir38.2
          refine lv_iconst (v := 0) hx hb dX11_two_136 (by decide) ?_
          refine lv_goto (tgt := 143) hx hb dX11_two_137 (by decide) ?_
          exact J143_s0_0 H locs ls  hH hS (lv_sub hl [] rfl)
      · refine lv_tableIn (tgt := 203) (off := 202) hx hb dX11_two_1 (by omega) (by omega) (by rw [c1b]; rfl) (by decide) ?_
        refine lv_iload_n hx hb dX11_two_203 rfl (lv_at hl 1 rfl) ?_
        refine lv_if_ne (tgt := 211) hx hb dX11_two_204 (by decide) (fun c39 => ?_) (fun c39 => ?_)
        · skip
          have rlc39 : y1.toInt ≠ (0 : Int) := iv_ne c39
          exact J211 H locs ls  hH hS (lv_sub hl [] rfl)
        · skip
          have rlc39 : y1.toInt = (0 : Int) := congrArg Int32.toInt c39
          have ir40 : IV y1 0 0 := iv_eL c39 (iv_c (by decide) : IV 0 0 0)
          have ir40a := ir40.1; have ir40b := ir40.2
          refine lv_iload_n hx hb dX11_two_207 rfl (lv_at hl 2 rfl) ?_
          refine lv_if_eq (tgt := 215) hx hb dX11_two_208 (by decide) (fun c41 => ?_) (fun c41 => ?_)
          · skip
            have rlc41 : y2.toInt = (0 : Int) := congrArg Int32.toInt c41
            have ir42 : IV y2 0 0 := iv_eL c41 (iv_c (by decide) : IV 0 0 0)
            have ir42a := ir42.1; have ir42b := ir42.2
            refine lv_iconst (v := 0) hx hb dX11_two_215 (by decide) ?_
            exact J216_s0_0 H locs ls  hH hS (lv_sub hl [] rfl)
          · skip
            have rlc41 : y2.toInt ≠ (0 : Int) := iv_ne c41
            exact J211 H locs ls  hH hS (lv_sub hl [] rfl)
      · refine lv_tableIn (tgt := 203) (off := 202) hx hb dX11_two_1 (by omega) (by omega) (by rw [c1b]; rfl) (by decide) ?_
        refine lv_iload_n hx hb dX11_two_203 rfl (lv_at hl 1 rfl) ?_
        refine lv_if_ne (tgt := 211) hx hb dX11_two_204 (by decide) (fun c43 => ?_) (fun c43 => ?_)
        · skip
          have rlc43 : y1.toInt ≠ (0 : Int) := iv_ne c43
          exact J211 H locs ls  hH hS (lv_sub hl [] rfl)
        · skip
          have rlc43 : y1.toInt = (0 : Int) := congrArg Int32.toInt c43
          have ir44 : IV y1 0 0 := iv_eL c43 (iv_c (by decide) : IV 0 0 0)
          have ir44a := ir44.1; have ir44b := ir44.2
          refine lv_iload_n hx hb dX11_two_207 rfl (lv_at hl 2 rfl) ?_
          refine lv_if_eq (tgt := 215) hx hb dX11_two_208 (by decide) (fun c45 => ?_) (fun c45 => ?_)
          · skip
            have rlc45 : y2.toInt = (0 : Int) := congrArg Int32.toInt c45
            have ir46 : IV y2 0 0 := iv_eL c45 (iv_c (by decide) : IV 0 0 0)
            have ir46a := ir46.1; have ir46b := ir46.2
            refine lv_iconst (v := 0) hx hb dX11_two_215 (by decide) ?_
            exact J216_s0_0 H locs ls  hH hS (lv_sub hl [] rfl)
          · skip
            have rlc45 : y2.toInt ≠ (0 : Int) := iv_ne c45
            exact J211 H locs ls  hH hS (lv_sub hl [] rfl)
      · refine lv_tableIn (tgt := 203) (off := 202) hx hb dX11_two_1 (by omega) (by omega) (by rw [c1b]; rfl) (by decide) ?_
        refine lv_iload_n hx hb dX11_two_203 rfl (lv_at hl 1 rfl) ?_
        refine lv_if_ne (tgt := 211) hx hb dX11_two_204 (by decide) (fun c47 => ?_) (fun c47 => ?_)
        · skip
          have rlc47 : y1.toInt ≠ (0 : Int) := iv_ne c47
          exact J211 H locs ls  hH hS (lv_sub hl [] rfl)
        · skip
          have rlc47 : y1.toInt = (0 : Int) := congrArg Int32.toInt c47
          have ir48 : IV y1 0 0 := iv_eL c47 (iv_c (by decide) : IV 0 0 0)
          have ir48a := ir48.1; have ir48b := ir48.2
          refine lv_iload_n hx hb dX11_two_207 rfl (lv_at hl 2 rfl) ?_
          refine lv_if_eq (tgt := 215) hx hb dX11_two_208 (by decide) (fun c49 => ?_) (fun c49 => ?_)
          · skip
            have rlc49 : y2.toInt = (0 : Int) := congrArg Int32.toInt c49
            have ir50 : IV y2 0 0 := iv_eL c49 (iv_c (by decide) : IV 0 0 0)
            have ir50a := ir50.1; have ir50b := ir50.2
            refine lv_iconst (v := 0) hx hb dX11_two_215 (by decide) ?_
            exact J216_s0_0 H locs ls  hH hS (lv_sub hl [] rfl)
          · skip
            have rlc49 : y2.toInt ≠ (0 : Int) := iv_ne c49
            exact J211 H locs ls  hH hS (lv_sub hl [] rfl)
      · refine lv_tableIn (tgt := 203) (off := 202) hx hb dX11_two_1 (by omega) (by omega) (by rw [c1b]; rfl) (by decide) ?_
        refine lv_iload_n hx hb dX11_two_203 rfl (lv_at hl 1 rfl) ?_
        refine lv_if_ne (tgt := 211) hx hb dX11_two_204 (by decide) (fun c51 => ?_) (fun c51 => ?_)
        · skip
          have rlc51 : y1.toInt ≠ (0 : Int) := iv_ne c51
          exact J211 H locs ls  hH hS (lv_sub hl [] rfl)
        · skip
          have rlc51 : y1.toInt = (0 : Int) := congrArg Int32.toInt c51
          have ir52 : IV y1 0 0 := iv_eL c51 (iv_c (by decide) : IV 0 0 0)
          have ir52a := ir52.1; have ir52b := ir52.2
          refine lv_iload_n hx hb dX11_two_207 rfl (lv_at hl 2 rfl) ?_
          refine lv_if_eq (tgt := 215) hx hb dX11_two_208 (by decide) (fun c53 => ?_) (fun c53 => ?_)
          · skip
            have rlc53 : y2.toInt = (0 : Int) := congrArg Int32.toInt c53
            have ir54 : IV y2 0 0 := iv_eL c53 (iv_c (by decide) : IV 0 0 0)
            have ir54a := ir54.1; have ir54b := ir54.2
            refine lv_iconst (v := 0) hx hb dX11_two_215 (by decide) ?_
            exact J216_s0_0 H locs ls  hH hS (lv_sub hl [] rfl)
          · skip
            have rlc53 : y2.toInt ≠ (0 : Int) := iv_ne c53
            exact J211 H locs ls  hH hS (lv_sub hl [] rfl)
      · refine lv_tableIn (tgt := 203) (off := 202) hx hb dX11_two_1 (by omega) (by omega) (by rw [c1b]; rfl) (by decide) ?_
        refine lv_iload_n hx hb dX11_two_203 rfl (lv_at hl 1 rfl) ?_
        refine lv_if_ne (tgt := 211) hx hb dX11_two_204 (by decide) (fun c55 => ?_) (fun c55 => ?_)
        · skip
          have rlc55 : y1.toInt ≠ (0 : Int) := iv_ne c55
          exact J211 H locs ls  hH hS (lv_sub hl [] rfl)
        · skip
          have rlc55 : y1.toInt = (0 : Int) := congrArg Int32.toInt c55
          have ir56 : IV y1 0 0 := iv_eL c55 (iv_c (by decide) : IV 0 0 0)
          have ir56a := ir56.1; have ir56b := ir56.2
          refine lv_iload_n hx hb dX11_two_207 rfl (lv_at hl 2 rfl) ?_
          refine lv_if_eq (tgt := 215) hx hb dX11_two_208 (by decide) (fun c57 => ?_) (fun c57 => ?_)
          · skip
            have rlc57 : y2.toInt = (0 : Int) := congrArg Int32.toInt c57
            have ir58 : IV y2 0 0 := iv_eL c57 (iv_c (by decide) : IV 0 0 0)
            have ir58a := ir58.1; have ir58b := ir58.2
            refine lv_iconst (v := 0) hx hb dX11_two_215 (by decide) ?_
            exact J216_s0_0 H locs ls  hH hS (lv_sub hl [] rfl)
          · skip
            have rlc57 : y2.toInt ≠ (0 : Int) := iv_ne c57
            exact J211 H locs ls  hH hS (lv_sub hl [] rfl)
      · refine lv_tableIn (tgt := 203) (off := 202) hx hb dX11_two_1 (by omega) (by omega) (by rw [c1b]; rfl) (by decide) ?_
        refine lv_iload_n hx hb dX11_two_203 rfl (lv_at hl 1 rfl) ?_
        refine lv_if_ne (tgt := 211) hx hb dX11_two_204 (by decide) (fun c59 => ?_) (fun c59 => ?_)
        · skip
          have rlc59 : y1.toInt ≠ (0 : Int) := iv_ne c59
          exact J211 H locs ls  hH hS (lv_sub hl [] rfl)
        · skip
          have rlc59 : y1.toInt = (0 : Int) := congrArg Int32.toInt c59
          have ir60 : IV y1 0 0 := iv_eL c59 (iv_c (by decide) : IV 0 0 0)
          have ir60a := ir60.1; have ir60b := ir60.2
          refine lv_iload_n hx hb dX11_two_207 rfl (lv_at hl 2 rfl) ?_
          refine lv_if_eq (tgt := 215) hx hb dX11_two_208 (by decide) (fun c61 => ?_) (fun c61 => ?_)
          · skip
            have rlc61 : y2.toInt = (0 : Int) := congrArg Int32.toInt c61
            have ir62 : IV y2 0 0 := iv_eL c61 (iv_c (by decide) : IV 0 0 0)
            have ir62a := ir62.1; have ir62b := ir62.2
            refine lv_iconst (v := 0) hx hb dX11_two_215 (by decide) ?_
            exact J216_s0_0 H locs ls  hH hS (lv_sub hl [] rfl)
          · skip
            have rlc61 : y2.toInt ≠ (0 : Int) := iv_ne c61
            exact J211 H locs ls  hH hS (lv_sub hl [] rfl)
      · refine lv_tableIn (tgt := 203) (off := 202) hx hb dX11_two_1 (by omega) (by omega) (by rw [c1b]; rfl) (by decide) ?_
        refine lv_iload_n hx hb dX11_two_203 rfl (lv_at hl 1 rfl) ?_
        refine lv_if_ne (tgt := 211) hx hb dX11_two_204 (by decide) (fun c63 => ?_) (fun c63 => ?_)
        · skip
          have rlc63 : y1.toInt ≠ (0 : Int) := iv_ne c63
          exact J211 H locs ls  hH hS (lv_sub hl [] rfl)
        · skip
          have rlc63 : y1.toInt = (0 : Int) := congrArg Int32.toInt c63
          have ir64 : IV y1 0 0 := iv_eL c63 (iv_c (by decide) : IV 0 0 0)
          have ir64a := ir64.1; have ir64b := ir64.2
          refine lv_iload_n hx hb dX11_two_207 rfl (lv_at hl 2 rfl) ?_
          refine lv_if_eq (tgt := 215) hx hb dX11_two_208 (by decide) (fun c65 => ?_) (fun c65 => ?_)
          · skip
            have rlc65 : y2.toInt = (0 : Int) := congrArg Int32.toInt c65
            have ir66 : IV y2 0 0 := iv_eL c65 (iv_c (by decide) : IV 0 0 0)
            have ir66a := ir66.1; have ir66b := ir66.2
            refine lv_iconst (v := 0) hx hb dX11_two_215 (by decide) ?_
            exact J216_s0_0 H locs ls  hH hS (lv_sub hl [] rfl)
          · skip
            have rlc65 : y2.toInt ≠ (0 : Int) := iv_ne c65
            exact J211 H locs ls  hH hS (lv_sub hl [] rfl)
      · refine lv_tableIn (tgt := 203) (off := 202) hx hb dX11_two_1 (by omega) (by omega) (by rw [c1b]; rfl) (by decide) ?_
        refine lv_iload_n hx hb dX11_two_203 rfl (lv_at hl 1 rfl) ?_
        refine lv_if_ne (tgt := 211) hx hb dX11_two_204 (by decide) (fun c67 => ?_) (fun c67 => ?_)
        · skip
          have rlc67 : y1.toInt ≠ (0 : Int) := iv_ne c67
          exact J211 H locs ls  hH hS (lv_sub hl [] rfl)
        · skip
          have rlc67 : y1.toInt = (0 : Int) := congrArg Int32.toInt c67
          have ir68 : IV y1 0 0 := iv_eL c67 (iv_c (by decide) : IV 0 0 0)
          have ir68a := ir68.1; have ir68b := ir68.2
          refine lv_iload_n hx hb dX11_two_207 rfl (lv_at hl 2 rfl) ?_
          refine lv_if_eq (tgt := 215) hx hb dX11_two_208 (by decide) (fun c69 => ?_) (fun c69 => ?_)
          · skip
            have rlc69 : y2.toInt = (0 : Int) := congrArg Int32.toInt c69
            have ir70 : IV y2 0 0 := iv_eL c69 (iv_c (by decide) : IV 0 0 0)
            have ir70a := ir70.1; have ir70b := ir70.2
            refine lv_iconst (v := 0) hx hb dX11_two_215 (by decide) ?_
            exact J216_s0_0 H locs ls  hH hS (lv_sub hl [] rfl)
          · skip
            have rlc69 : y2.toInt ≠ (0 : Int) := iv_ne c69
            exact J211 H locs ls  hH hS (lv_sub hl [] rfl)
      · refine lv_tableIn (tgt := 203) (off := 202) hx hb dX11_two_1 (by omega) (by omega) (by rw [c1b]; rfl) (by decide) ?_
        refine lv_iload_n hx hb dX11_two_203 rfl (lv_at hl 1 rfl) ?_
        refine lv_if_ne (tgt := 211) hx hb dX11_two_204 (by decide) (fun c71 => ?_) (fun c71 => ?_)
        · skip
          have rlc71 : y1.toInt ≠ (0 : Int) := iv_ne c71
          exact J211 H locs ls  hH hS (lv_sub hl [] rfl)
        · skip
          have rlc71 : y1.toInt = (0 : Int) := congrArg Int32.toInt c71
          have ir72 : IV y1 0 0 := iv_eL c71 (iv_c (by decide) : IV 0 0 0)
          have ir72a := ir72.1; have ir72b := ir72.2
          refine lv_iload_n hx hb dX11_two_207 rfl (lv_at hl 2 rfl) ?_
          refine lv_if_eq (tgt := 215) hx hb dX11_two_208 (by decide) (fun c73 => ?_) (fun c73 => ?_)
          · skip
            have rlc73 : y2.toInt = (0 : Int) := congrArg Int32.toInt c73
            have ir74 : IV y2 0 0 := iv_eL c73 (iv_c (by decide) : IV 0 0 0)
            have ir74a := ir74.1; have ir74b := ir74.2
            refine lv_iconst (v := 0) hx hb dX11_two_215 (by decide) ?_
            exact J216_s0_0 H locs ls  hH hS (lv_sub hl [] rfl)
          · skip
            have rlc73 : y2.toInt ≠ (0 : Int) := iv_ne c73
            exact J211 H locs ls  hH hS (lv_sub hl [] rfl)
      · refine lv_tableIn (tgt := 203) (off := 202) hx hb dX11_two_1 (by omega) (by omega) (by rw [c1b]; rfl) (by decide) ?_
        refine lv_iload_n hx hb dX11_two_203 rfl (lv_at hl 1 rfl) ?_
        refine lv_if_ne (tgt := 211) hx hb dX11_two_204 (by decide) (fun c75 => ?_) (fun c75 => ?_)
        · skip
          have rlc75 : y1.toInt ≠ (0 : Int) := iv_ne c75
          exact J211 H locs ls  hH hS (lv_sub hl [] rfl)
        · skip
          have rlc75 : y1.toInt = (0 : Int) := congrArg Int32.toInt c75
          have ir76 : IV y1 0 0 := iv_eL c75 (iv_c (by decide) : IV 0 0 0)
          have ir76a := ir76.1; have ir76b := ir76.2
          refine lv_iload_n hx hb dX11_two_207 rfl (lv_at hl 2 rfl) ?_
          refine lv_if_eq (tgt := 215) hx hb dX11_two_208 (by decide) (fun c77 => ?_) (fun c77 => ?_)
          · skip
            have rlc77 : y2.toInt = (0 : Int) := congrArg Int32.toInt c77
            have ir78 : IV y2 0 0 := iv_eL c77 (iv_c (by decide) : IV 0 0 0)
            have ir78a := ir78.1; have ir78b := ir78.2
            refine lv_iconst (v := 0) hx hb dX11_two_215 (by decide) ?_
            exact J216_s0_0 H locs ls  hH hS (lv_sub hl [] rfl)
          · skip
            have rlc77 : y2.toInt ≠ (0 : Int) := iv_ne c77
            exact J211 H locs ls  hH hS (lv_sub hl [] rfl)
      · refine lv_tableIn (tgt := 203) (off := 202) hx hb dX11_two_1 (by omega) (by omega) (by rw [c1b]; rfl) (by decide) ?_
        refine lv_iload_n hx hb dX11_two_203 rfl (lv_at hl 1 rfl) ?_
        refine lv_if_ne (tgt := 211) hx hb dX11_two_204 (by decide) (fun c79 => ?_) (fun c79 => ?_)
        · skip
          have rlc79 : y1.toInt ≠ (0 : Int) := iv_ne c79
          exact J211 H locs ls  hH hS (lv_sub hl [] rfl)
        · skip
          have rlc79 : y1.toInt = (0 : Int) := congrArg Int32.toInt c79
          have ir80 : IV y1 0 0 := iv_eL c79 (iv_c (by decide) : IV 0 0 0)
          have ir80a := ir80.1; have ir80b := ir80.2
          refine lv_iload_n hx hb dX11_two_207 rfl (lv_at hl 2 rfl) ?_
          refine lv_if_eq (tgt := 215) hx hb dX11_two_208 (by decide) (fun c81 => ?_) (fun c81 => ?_)
          · skip
            have rlc81 : y2.toInt = (0 : Int) := congrArg Int32.toInt c81
            have ir82 : IV y2 0 0 := iv_eL c81 (iv_c (by decide) : IV 0 0 0)
            have ir82a := ir82.1; have ir82b := ir82.2
            refine lv_iconst (v := 0) hx hb dX11_two_215 (by decide) ?_
            exact J216_s0_0 H locs ls  hH hS (lv_sub hl [] rfl)
          · skip
            have rlc81 : y2.toInt ≠ (0 : Int) := iv_ne c81
            exact J211 H locs ls  hH hS (lv_sub hl [] rfl)
      · refine lv_tableIn (tgt := 203) (off := 202) hx hb dX11_two_1 (by omega) (by omega) (by rw [c1b]; rfl) (by decide) ?_
        refine lv_iload_n hx hb dX11_two_203 rfl (lv_at hl 1 rfl) ?_
        refine lv_if_ne (tgt := 211) hx hb dX11_two_204 (by decide) (fun c83 => ?_) (fun c83 => ?_)
        · skip
          have rlc83 : y1.toInt ≠ (0 : Int) := iv_ne c83
          exact J211 H locs ls  hH hS (lv_sub hl [] rfl)
        · skip
          have rlc83 : y1.toInt = (0 : Int) := congrArg Int32.toInt c83
          have ir84 : IV y1 0 0 := iv_eL c83 (iv_c (by decide) : IV 0 0 0)
          have ir84a := ir84.1; have ir84b := ir84.2
          refine lv_iload_n hx hb dX11_two_207 rfl (lv_at hl 2 rfl) ?_
          refine lv_if_eq (tgt := 215) hx hb dX11_two_208 (by decide) (fun c85 => ?_) (fun c85 => ?_)
          · skip
            have rlc85 : y2.toInt = (0 : Int) := congrArg Int32.toInt c85
            have ir86 : IV y2 0 0 := iv_eL c85 (iv_c (by decide) : IV 0 0 0)
            have ir86a := ir86.1; have ir86b := ir86.2
            refine lv_iconst (v := 0) hx hb dX11_two_215 (by decide) ?_
            exact J216_s0_0 H locs ls  hH hS (lv_sub hl [] rfl)
          · skip
            have rlc85 : y2.toInt ≠ (0 : Int) := iv_ne c85
            exact J211 H locs ls  hH hS (lv_sub hl [] rfl)
      · refine lv_tableIn (tgt := 156) (off := 155) hx hb dX11_two_1 (by omega) (by omega) (by rw [c1b]; rfl) (by decide) ?_
        refine lv_iload_n hx hb dX11_two_156 rfl (lv_at hl 1 rfl) ?_
        refine lv_iload_n hx hb dX11_two_157 rfl (lv_at hl 2 rfl) ?_
        refine lv_icmp_ge (tgt := 165) hx hb dX11_two_158 (by decide) (fun c87 => ?_) (fun c87 => ?_)
        · skip
          have rlc87 : y2.toInt ≤ y1.toInt := iv_le c87
          refine lv_iconst (v := 0) hx hb dX11_two_165 (by decide) ?_
          exact J166_s0_0 H locs ls  hH hS (lv_sub hl [] rfl)
        · skip
          have rlc87 : y1.toInt < y2.toInt := iv_nle c87
          have ir88 : IV y1 (-2147483648) 2147483646 := iv_uL j1 j2 (iv_nle c87) (by decide)
          have ir88a := ir88.1; have ir88b := ir88.2
          have ir89 : IV y2 (-2147483647) 2147483647 := iv_uR j1 j2 (iv_nle c87) (by decide)
          have ir89a := ir89.1; have ir89b := ir89.2
          refine lv_iconst (v := 1) hx hb dX11_two_161 (by decide) ?_
          refine lv_goto (tgt := 166) hx hb dX11_two_162 (by decide) ?_
          exact J166_s0_1 H locs ls  hH hS (lv_sub hl [] rfl)
      · refine lv_tableIn (tgt := 178) (off := 177) hx hb dX11_two_1 (by omega) (by omega) (by rw [c1b]; rfl) (by decide) ?_
        refine lv_iload_n hx hb dX11_two_178 rfl (lv_at hl 1 rfl) ?_
        refine lv_iload_n hx hb dX11_two_179 rfl (lv_at hl 2 rfl) ?_
        refine lv_icmp_ne (tgt := 187) hx hb dX11_two_180 (by decide) (fun c90 => ?_) (fun c90 => ?_)
        · skip
          have rlc90 : y1.toInt ≠ y2.toInt := iv_ne c90
          refine lv_iconst (v := 0) hx hb dX11_two_187 (by decide) ?_
          exact J188_s0_0 H locs ls  hH hS (lv_sub hl [] rfl)
        · skip
          have rlc90 : y1.toInt = y2.toInt := congrArg Int32.toInt c90
          refine lv_iconst (v := 1) hx hb dX11_two_183 (by decide) ?_
          refine lv_goto (tgt := 188) hx hb dX11_two_184 (by decide) ?_
          exact J188_s0_1 H locs ls  hH hS (lv_sub hl [] rfl)
      · refine lv_tableIn (tgt := 167) (off := 166) hx hb dX11_two_1 (by omega) (by omega) (by rw [c1b]; rfl) (by decide) ?_
        refine lv_iload_n hx hb dX11_two_167 rfl (lv_at hl 1 rfl) ?_
        refine lv_iload_n hx hb dX11_two_168 rfl (lv_at hl 2 rfl) ?_
        refine lv_icmp_le (tgt := 176) hx hb dX11_two_169 (by decide) (fun c91 => ?_) (fun c91 => ?_)
        · skip
          have rlc91 : y1.toInt ≤ y2.toInt := iv_le c91
          refine lv_iconst (v := 0) hx hb dX11_two_176 (by decide) ?_
          exact J177_s0_0 H locs ls  hH hS (lv_sub hl [] rfl)
        · skip
          have rlc91 : y2.toInt < y1.toInt := iv_nle c91
          have ir92 : IV y2 (-2147483648) 2147483646 := iv_uL j2 j1 (iv_nle c91) (by decide)
          have ir92a := ir92.1; have ir92b := ir92.2
          have ir93 : IV y1 (-2147483647) 2147483647 := iv_uR j2 j1 (iv_nle c91) (by decide)
          have ir93a := ir93.1; have ir93b := ir93.2
          refine lv_iconst (v := 1) hx hb dX11_two_172 (by decide) ?_
          refine lv_goto (tgt := 177) hx hb dX11_two_173 (by decide) ?_
          exact J177_s0_1 H locs ls  hH hS (lv_sub hl [] rfl)
  exact J0 s.heap [] ls hH va_S.rf hl

set_option maxRecDepth 100000 in
theorem m_X11_asked (l : Launch) (D : va_G) (cT : Nat → ClassId) (T : Nat → Option Nat) (q : Nat → Int) (hT : tokm T) (hq : qkm q) (a0 : Nat) (t0 : T a0 = some 0) (y1 : Int32) (j1 : IV y1 (-2147483648) 2147483647) (y2 : Int32) (j2 : IV y2 (-2147483648) 2147483647) : th_Met l D cT T (km q) yX11_asked cX11_asked 3 (some .int) (rmk 0 0) [.ref a0, .int y1, .int y2] (th_R T (some (.inl (-2147483648, 2147483647)))) [] := by
  refine th_start (by decide) (Nat.le_of_ble_eq_true rfl) ?_
  intro p e s m below meth c ls S hK hH hr hlocks hnm hl
  have hx := S.1
  have hb := S.2.1
  have hl : lv_has ls 3 [(0, .ref a0), (1, .int y1), (2, .int y2)] := hl
  have J0 : ∀ (H : Heap) (locs : List Loc) (ls : Array Slot), th_H D cT T (km q) H → va_S (th_A T []) s.heap H locs → lv_has ls 3 [(0, .ref a0), (1, .int y1), (2, .int y2)] → W p l e (rmk 0 0) s m [.ref a0, .int y1, .int y2].toArray below meth c H locs 0 0 (MQ below (th_Q D cT T (km q) (th_R T (some (.inl (-2147483648, 2147483647)))) []) [.ref a0, .int y1, .int y2].toArray s 0 0 (th_A T [])) (F0 m 0 ls []) := by
    intro H locs ls hH hS hl
    refine lv_iload_n hx hb dX11_asked_0 rfl (lv_at hl 1 rfl) ?_
    by_cases c1 : y1.toInt < 99 ∨ 122 < y1.toInt
    · refine lv_tableOut (tgt := 153) hx hb dX11_asked_1 c1 (by decide) ?_
      refine lv_iload_n hx hb dX11_asked_153 rfl (lv_at hl 2 rfl) ?_
      exact th_iret S hK hH hS hr hlocks (th_R.i j2) dX11_asked_154
    · rcases (show y1.toInt = 99 ∨ y1.toInt = 100 ∨ y1.toInt = 101 ∨ y1.toInt = 102 ∨ y1.toInt = 103 ∨ y1.toInt = 104 ∨ y1.toInt = 105 ∨ y1.toInt = 106 ∨ y1.toInt = 107 ∨ y1.toInt = 108 ∨ y1.toInt = 109 ∨ y1.toInt = 110 ∨ y1.toInt = 111 ∨ y1.toInt = 112 ∨ y1.toInt = 113 ∨ y1.toInt = 114 ∨ y1.toInt = 115 ∨ y1.toInt = 116 ∨ y1.toInt = 117 ∨ y1.toInt = 118 ∨ y1.toInt = 119 ∨ y1.toInt = 120 ∨ y1.toInt = 121 ∨ y1.toInt = 122 by omega) with c1b | c1b | c1b | c1b | c1b | c1b | c1b | c1b | c1b | c1b | c1b | c1b | c1b | c1b | c1b | c1b | c1b | c1b | c1b | c1b | c1b | c1b | c1b | c1b
      · refine lv_tableIn (tgt := 130) (off := 129) hx hb dX11_asked_1 (by omega) (by omega) (by rw [c1b]; rfl) (by decide) ?_
        refine lv_aload_n hx hb dX11_asked_130 rfl (lv_at hl 0 rfl) ?_
        refine th_get S hK hH inG11 t0 km_0 rfl 52 (by decide) gm_1282 rfl rfl dX11_asked_131 (fun v2 hv2 fv2 => ?_)
        obtain ⟨rf3, rfl, trf3⟩ := th_V.ref hv2
        refine lv_bipush (v := 41) hx hb dX11_asked_134 (by decide) ?_
        refine th_iald S hK hH trf3 km_33 (th_in (hi := 41) (iv_w (iv_c (by decide) : IV 41 41 41) (by decide)) (by decide)) dX11_asked_136 (fun v4 hv4 => ?_)
        obtain ⟨x5, rfl, ix5⟩ := th_V.int hv4
        exact th_iret S hK hH hS hr hlocks (th_R.i ix5) dX11_asked_137
      · refine lv_tableIn (tgt := 153) (off := 152) hx hb dX11_asked_1 (by omega) (by omega) (by rw [c1b]; rfl) (by decide) ?_
        refine lv_iload_n hx hb dX11_asked_153 rfl (lv_at hl 2 rfl) ?_
        exact th_iret S hK hH hS hr hlocks (th_R.i j2) dX11_asked_154
      · refine lv_tableIn (tgt := 125) (off := 124) hx hb dX11_asked_1 (by omega) (by omega) (by rw [c1b]; rfl) (by decide) ?_
        refine lv_aload_n hx hb dX11_asked_125 rfl (lv_at hl 0 rfl) ?_
        refine th_get S hK hH inG11 t0 km_0 rfl 48 (by decide) gm_1278 rfl rfl dX11_asked_126 (fun v6 hv6 fv6 => ?_)
        obtain ⟨x7, rfl, ix7⟩ := th_V.int hv6
        exact th_iret S hK hH hS hr hlocks (th_R.i ix7) dX11_asked_129
      · refine lv_tableIn (tgt := 153) (off := 152) hx hb dX11_asked_1 (by omega) (by omega) (by rw [c1b]; rfl) (by decide) ?_
        refine lv_iload_n hx hb dX11_asked_153 rfl (lv_at hl 2 rfl) ?_
        exact th_iret S hK hH hS hr hlocks (th_R.i j2) dX11_asked_154
      · refine lv_tableIn (tgt := 153) (off := 152) hx hb dX11_asked_1 (by omega) (by omega) (by rw [c1b]; rfl) (by decide) ?_
        refine lv_iload_n hx hb dX11_asked_153 rfl (lv_at hl 2 rfl) ?_
        exact th_iret S hK hH hS hr hlocks (th_R.i j2) dX11_asked_154
      · refine lv_tableIn (tgt := 148) (off := 147) hx hb dX11_asked_1 (by omega) (by omega) (by rw [c1b]; rfl) (by decide) ?_
        refine lv_aload_n hx hb dX11_asked_148 rfl (lv_at hl 0 rfl) ?_
        refine th_get S hK hH inG11 t0 km_0 rfl 51 (by decide) gm_1281 rfl rfl dX11_asked_149 (fun v8 hv8 fv8 => ?_)
        obtain ⟨x9, rfl, ix9⟩ := th_V.int hv8
        exact th_iret S hK hH hS hr hlocks (th_R.i ix9) dX11_asked_152
      · refine lv_tableIn (tgt := 153) (off := 152) hx hb dX11_asked_1 (by omega) (by omega) (by rw [c1b]; rfl) (by decide) ?_
        refine lv_iload_n hx hb dX11_asked_153 rfl (lv_at hl 2 rfl) ?_
        exact th_iret S hK hH hS hr hlocks (th_R.i j2) dX11_asked_154
      · refine lv_tableIn (tgt := 153) (off := 152) hx hb dX11_asked_1 (by omega) (by omega) (by rw [c1b]; rfl) (by decide) ?_
        refine lv_iload_n hx hb dX11_asked_153 rfl (lv_at hl 2 rfl) ?_
        exact th_iret S hK hH hS hr hlocks (th_R.i j2) dX11_asked_154
      · refine lv_tableIn (tgt := 153) (off := 152) hx hb dX11_asked_1 (by omega) (by omega) (by rw [c1b]; rfl) (by decide) ?_
        refine lv_iload_n hx hb dX11_asked_153 rfl (lv_at hl 2 rfl) ?_
        exact th_iret S hK hH hS hr hlocks (th_R.i j2) dX11_asked_154
      · refine lv_tableIn (tgt := 153) (off := 152) hx hb dX11_asked_1 (by omega) (by omega) (by rw [c1b]; rfl) (by decide) ?_
        refine lv_iload_n hx hb dX11_asked_153 rfl (lv_at hl 2 rfl) ?_
        exact th_iret S hK hH hS hr hlocks (th_R.i j2) dX11_asked_154
      · refine lv_tableIn (tgt := 153) (off := 152) hx hb dX11_asked_1 (by omega) (by omega) (by rw [c1b]; rfl) (by decide) ?_
        refine lv_iload_n hx hb dX11_asked_153 rfl (lv_at hl 2 rfl) ?_
        exact th_iret S hK hH hS hr hlocks (th_R.i j2) dX11_asked_154
      · refine lv_tableIn (tgt := 153) (off := 152) hx hb dX11_asked_1 (by omega) (by omega) (by rw [c1b]; rfl) (by decide) ?_
        refine lv_iload_n hx hb dX11_asked_153 rfl (lv_at hl 2 rfl) ?_
        exact th_iret S hK hH hS hr hlocks (th_R.i j2) dX11_asked_154
      · refine lv_tableIn (tgt := 153) (off := 152) hx hb dX11_asked_1 (by omega) (by omega) (by rw [c1b]; rfl) (by decide) ?_
        refine lv_iload_n hx hb dX11_asked_153 rfl (lv_at hl 2 rfl) ?_
        exact th_iret S hK hH hS hr hlocks (th_R.i j2) dX11_asked_154
      · refine lv_tableIn (tgt := 153) (off := 152) hx hb dX11_asked_1 (by omega) (by omega) (by rw [c1b]; rfl) (by decide) ?_
        refine lv_iload_n hx hb dX11_asked_153 rfl (lv_at hl 2 rfl) ?_
        exact th_iret S hK hH hS hr hlocks (th_R.i j2) dX11_asked_154
      · refine lv_tableIn (tgt := 153) (off := 152) hx hb dX11_asked_1 (by omega) (by omega) (by rw [c1b]; rfl) (by decide) ?_
        refine lv_iload_n hx hb dX11_asked_153 rfl (lv_at hl 2 rfl) ?_
        exact th_iret S hK hH hS hr hlocks (th_R.i j2) dX11_asked_154
      · refine lv_tableIn (tgt := 153) (off := 152) hx hb dX11_asked_1 (by omega) (by omega) (by rw [c1b]; rfl) (by decide) ?_
        refine lv_iload_n hx hb dX11_asked_153 rfl (lv_at hl 2 rfl) ?_
        exact th_iret S hK hH hS hr hlocks (th_R.i j2) dX11_asked_154
      · refine lv_tableIn (tgt := 112) (off := 111) hx hb dX11_asked_1 (by omega) (by omega) (by rw [c1b]; rfl) (by decide) ?_
        refine lv_aload_n hx hb dX11_asked_112 rfl (lv_at hl 0 rfl) ?_
        refine th_get S hK hH inG11 t0 km_0 rfl 47 (by decide) gm_1277 rfl rfl dX11_asked_113 (fun v10 hv10 fv10 => ?_)
        obtain ⟨x11, rfl, ix11⟩ := th_V.int hv10
        exact th_iret S hK hH hS hr hlocks (th_R.i ix11) dX11_asked_116
      · refine lv_tableIn (tgt := 153) (off := 152) hx hb dX11_asked_1 (by omega) (by omega) (by rw [c1b]; rfl) (by decide) ?_
        refine lv_iload_n hx hb dX11_asked_153 rfl (lv_at hl 2 rfl) ?_
        exact th_iret S hK hH hS hr hlocks (th_R.i j2) dX11_asked_154
      · refine lv_tableIn (tgt := 153) (off := 152) hx hb dX11_asked_1 (by omega) (by omega) (by rw [c1b]; rfl) (by decide) ?_
        refine lv_iload_n hx hb dX11_asked_153 rfl (lv_at hl 2 rfl) ?_
        exact th_iret S hK hH hS hr hlocks (th_R.i j2) dX11_asked_154
      · refine lv_tableIn (tgt := 153) (off := 152) hx hb dX11_asked_1 (by omega) (by omega) (by rw [c1b]; rfl) (by decide) ?_
        refine lv_iload_n hx hb dX11_asked_153 rfl (lv_at hl 2 rfl) ?_
        exact th_iret S hK hH hS hr hlocks (th_R.i j2) dX11_asked_154
      · refine lv_tableIn (tgt := 143) (off := 142) hx hb dX11_asked_1 (by omega) (by omega) (by rw [c1b]; rfl) (by decide) ?_
        refine lv_aload_n hx hb dX11_asked_143 rfl (lv_at hl 0 rfl) ?_
        refine th_get S hK hH inG11 t0 km_0 rfl 50 (by decide) gm_1280 rfl rfl dX11_asked_144 (fun v12 hv12 fv12 => ?_)
        obtain ⟨x13, rfl, ix13⟩ := th_V.int hv12
        exact th_iret S hK hH hS hr hlocks (th_R.i ix13) dX11_asked_147
      · refine lv_tableIn (tgt := 153) (off := 152) hx hb dX11_asked_1 (by omega) (by omega) (by rw [c1b]; rfl) (by decide) ?_
        refine lv_iload_n hx hb dX11_asked_153 rfl (lv_at hl 2 rfl) ?_
        exact th_iret S hK hH hS hr hlocks (th_R.i j2) dX11_asked_154
      · refine lv_tableIn (tgt := 117) (off := 116) hx hb dX11_asked_1 (by omega) (by omega) (by rw [c1b]; rfl) (by decide) ?_
        refine lv_aload_n hx hb dX11_asked_117 rfl (lv_at hl 0 rfl) ?_
        refine th_get S hK hH inG11 t0 km_0 rfl 52 (by decide) gm_1282 rfl rfl dX11_asked_118 (fun v14 hv14 fv14 => ?_)
        obtain ⟨rf15, rfl, trf15⟩ := th_V.ref hv14
        refine lv_bipush (v := 40) hx hb dX11_asked_121 (by decide) ?_
        refine th_iald S hK hH trf15 km_33 (th_in (hi := 40) (iv_w (iv_c (by decide) : IV 40 40 40) (by decide)) (by decide)) dX11_asked_123 (fun v16 hv16 => ?_)
        obtain ⟨x17, rfl, ix17⟩ := th_V.int hv16
        exact th_iret S hK hH hS hr hlocks (th_R.i ix17) dX11_asked_124
      · refine lv_tableIn (tgt := 138) (off := 137) hx hb dX11_asked_1 (by omega) (by omega) (by rw [c1b]; rfl) (by decide) ?_
        refine lv_aload_n hx hb dX11_asked_138 rfl (lv_at hl 0 rfl) ?_
        refine th_get S hK hH inG11 t0 km_0 rfl 49 (by decide) gm_1279 rfl rfl dX11_asked_139 (fun v18 hv18 fv18 => ?_)
        obtain ⟨x19, rfl, ix19⟩ := th_V.int hv18
        exact th_iret S hK hH hS hr hlocks (th_R.i ix19) dX11_asked_142
  exact J0 s.heap [] ls hH va_S.rf hl

set_option maxRecDepth 100000 in
theorem m_X11_comes (l : Launch) (D : va_G) (cT : Nat → ClassId) (T : Nat → Option Nat) (q : Nat → Int) (hT : tokm T) (hq : qkm q) (a0 : Nat) (t0 : T a0 = some 0) (y1 : Int32) (j1 : IV y1 0 4) (hp0 : y1.toInt < q 11 ∨ (y1.toInt = 4 ∧ q 12 = 1)) : th_Met l D cT T (km q) yX11_comes cX11_comes 5 (some .int) (rmk 1 22) [.ref a0, .int y1] (th_R T (some (.inl (-2147483648, 2147483647)))) [32] := by
  refine th_start (by decide) (Nat.le_of_ble_eq_true rfl) ?_
  intro p e s m below meth c ls S hK hH hr hlocks hnm hl
  have hx := S.1
  have hb := S.2.1
  have l1y1 := j1.1; have l2y1 := j1.2
  obtain ⟨f, t, hf, ht, hg1, hg2, hg3, hg4⟩ := rule_of hq j1 hp0
  have hl : lv_has ls 5 [(0, .ref a0), (1, .int y1)] := hl
  have J16 : ∀ (n : Nat) (H : Heap) (locs : List Loc) (ls : Array Slot) (v16_2 : Int32) (v16_3 : Int32), IV v16_2 0 60 → IV v16_3 0 1120 → (cinv q f v16_2.toInt v16_3.toInt) → (v16_3.toInt ≤ t) → th_H D cT T (km q) H → va_S (th_A T [32]) s.heap H locs → lv_has ls 5 [(0, .ref a0), (1, .int y1), (2, .int v16_2), (3, .int v16_3)] → (1120 + 1 - Int32.toInt v16_3).toNat < n → W p l e (rmk 1 22) s m [.ref a0, .int y1].toArray below meth c H locs 0 0 (MQ below (th_Q D cT T (km q) (th_R T (some (.inl (-2147483648, 2147483647)))) [32]) [.ref a0, .int y1].toArray s 0 0 (th_A T [32])) (F0 m 16 ls []) := by
    intro n
    induction n with
    | zero => intro H locs ls v16_2 v16_3 iv16_2 iv16_3 v16_inv0 v16_inv1 hH hS hl hn; exact absurd hn (Nat.not_lt_zero _)
    | succ n ih16 =>
      intro H locs ls v16_2 v16_3 iv16_2 iv16_3 v16_inv0 v16_inv1 hH hS hl hn16
      have J137 : ∀ (H : Heap) (locs : List Loc) (ls : Array Slot) (v137_2 : Int32), IV v137_2 0 60 → IV v16_3 0 1119 → (cinv q f v137_2.toInt (v16_3.toInt + 1)) → (v16_3.toInt < t) → th_H D cT T (km q) H → va_S (th_A T [32]) s.heap H locs → lv_has ls 5 [(0, .ref a0), (1, .int y1), (2, .int v137_2), (3, .int v16_3)] → W p l e (rmk 1 22) s m [.ref a0, .int y1].toArray below meth c H locs 0 0 (MQ below (th_Q D cT T (km q) (th_R T (some (.inl (-2147483648, 2147483647)))) [32]) [.ref a0, .int y1].toArray s 0 0 (th_A T [32])) (F0 m 137 ls []) := by
        intro H locs ls v137_2 iv137_2 f137_v16_3 v137_inv0 v137_inv1 hH hS hl
        have l1v137_2 := iv137_2.1; have l2v137_2 := iv137_2.2
        refine th_iinc S dX11_comes_137 hl (k := 3) rfl (by decide) f137_v16_3 (by decide) (fun x1 ls ex1 ix1 hl => ?_)
        have hl : lv_has ls 5 [(3, .int x1), (0, .ref a0), (1, .int y1), (2, .int v137_2)] := hl
        have ix1 : IV x1 1 1120 := ix1
        refine lv_goto (tgt := 16) hx hb dX11_comes_140 (by decide) ?_
        exact ih16 H locs ls v137_2 x1 iv137_2 (iv_w ix1 (by decide)) (show cinv q f v137_2.toInt x1.toInt by first | exact cinv0 hkf | (rw [ex1]; assumption)) (show x1.toInt ≤ t by omega) hH hS (lv_sub hl [1, 2, 3, 0] rfl) (th_up iv16_3 ex1 (by decide) hn16)
      have J71_s2_0 : ∀ (H : Heap) (locs : List Loc) (ls : Array Slot) (w71_0 : Nat) (w71_1 : Int32), T w71_0 = some 32 → IV w71_1 0 59 → IV v16_2 1 60 → IV v16_3 0 1119 → (cinv q f v16_2.toInt (v16_3.toInt + 1)) → (v16_3.toInt < t) → th_H D cT T (km q) H → va_S (th_A T [32]) s.heap H locs → lv_has ls 5 [(0, .ref a0), (1, .int y1), (2, .int v16_2), (3, .int v16_3)] → W p l e (rmk 1 22) s m [.ref a0, .int y1].toArray below meth c H locs 0 0 (MQ below (th_Q D cT T (km q) (th_R T (some (.inl (-2147483648, 2147483647)))) [32]) [.ref a0, .int y1].toArray s 0 0 (th_A T [32])) (F0 m 71 ls [.int 0, .int w71_1, .ref w71_0]) := by
        intro H locs ls w71_0 w71_1 tw71_0 iw71_1 f71_v16_2 f71_v16_3 v71_inv0 v71_inv1 hH hS hl
        have l1w71_1 := iw71_1.1; have l2w71_1 := iw71_1.2
        refine th_iast S hK hH hS ⟨32, by decide, tw71_0⟩ tw71_0 km_32 (th_in (hi := 59) iw71_1 (by decide)) (th_iv (iv_top _)) dX11_comes_71 (fun H locs hH hS hq1 => ?_)
        refine lv_goto (tgt := 137) hx hb dX11_comes_72 (by decide) ?_
        exact J137 H locs ls v16_2 (iv_w f71_v16_2 (by decide)) f71_v16_3 (show cinv q f v16_2.toInt (v16_3.toInt + 1) by first | assumption | (rw [ev16_2]; assumption)) (show v16_3.toInt < t by omega) hH hS (lv_sub hl [0, 1, 2, 3] rfl)
      have J71_s2_1 : ∀ (H : Heap) (locs : List Loc) (ls : Array Slot) (w71_0 : Nat) (w71_1 : Int32), T w71_0 = some 32 → IV w71_1 0 59 → IV v16_2 1 60 → IV v16_3 0 1119 → (cinv q f v16_2.toInt (v16_3.toInt + 1)) → (v16_3.toInt < t) → th_H D cT T (km q) H → va_S (th_A T [32]) s.heap H locs → lv_has ls 5 [(0, .ref a0), (1, .int y1), (2, .int v16_2), (3, .int v16_3)] → W p l e (rmk 1 22) s m [.ref a0, .int y1].toArray below meth c H locs 0 0 (MQ below (th_Q D cT T (km q) (th_R T (some (.inl (-2147483648, 2147483647)))) [32]) [.ref a0, .int y1].toArray s 0 0 (th_A T [32])) (F0 m 71 ls [.int 1, .int w71_1, .ref w71_0]) := by
        intro H locs ls w71_0 w71_1 tw71_0 iw71_1 f71_v16_2 f71_v16_3 v71_inv0 v71_inv1 hH hS hl
        have l1w71_1 := iw71_1.1; have l2w71_1 := iw71_1.2
        refine th_iast S hK hH hS ⟨32, by decide, tw71_0⟩ tw71_0 km_32 (th_in (hi := 59) iw71_1 (by decide)) (th_iv (iv_top _)) dX11_comes_71 (fun H locs hH hS hq1 => ?_)
        refine lv_goto (tgt := 137) hx hb dX11_comes_72 (by decide) ?_
        exact J137 H locs ls v16_2 (iv_w f71_v16_2 (by decide)) f71_v16_3 (show cinv q f v16_2.toInt (v16_3.toInt + 1) by first | assumption | (rw [ev16_2]; assumption)) (show v16_3.toInt < t by omega) hH hS (lv_sub hl [0, 1, 2, 3] rfl)
      have l1v16_2 := iv16_2.1; have l2v16_2 := iv16_2.2
      have l1v16_3 := iv16_3.1; have l2v16_3 := iv16_3.2
      refine lv_iload_n hx hb dX11_comes_16 rfl (lv_at hl 3 rfl) ?_
      refine lv_aload_n hx hb dX11_comes_17 rfl (lv_at hl 0 rfl) ?_
      refine th_get S hK hH inG11 t0 km_0 rfl 29 (by decide) gm_1259 rfl rfl dX11_comes_18 (fun v2 hv2 fv2 => ?_)
      obtain ⟨rf3, rfl, trf3⟩ := th_V.ref hv2
      refine lv_iconst (v := 5) hx hb dX11_comes_21 (by decide) ?_
      refine lv_aload_n hx hb dX11_comes_22 rfl (lv_at hl 0 rfl) ?_
      refine th_get S hK hH inG11 t0 km_0 rfl 41 (by decide) gm_1271 rfl rfl dX11_comes_23 (fun v4 hv4 fv4 => ?_)
      obtain ⟨x5, rfl, ix5⟩ := th_V.int hv4
      have kx5a : q 10 ≤ x5.toInt := ix5.1
      have kx5b : x5.toInt ≤ q 10 := ix5.2
      have ix5 : IV x5 0 1 := iv_w ix5 (qkm_10 hq)
      refine lv_imul hx hb dX11_comes_26 ?_
      refine lv_topi (fun x6 ex6 => ?_)
      have ix6 : IV x6 0 5 := by rw [ex6]; exact iv_mul (iv_c (by decide) : IV 5 5 5) ix5 (by decide) (by decide)
      have ux6 : x6.toInt = (5 : Int) * x5.toInt := by rw [ex6]; exact iv_mulE (iv_corner ((iv_c (by decide) : IV 5 5 5)).1 ((iv_c (by decide) : IV 5 5 5)).2 (ix5).1 (ix5).2 (by decide))
      refine lv_iload_n hx hb dX11_comes_27 rfl (lv_at hl 1 rfl) ?_
      refine lv_iadd hx hb dX11_comes_28 ?_
      refine lv_topi (fun x7 ex7 => ?_)
      have ix7 : IV x7 0 9 := by rw [ex7]; exact iv_add ix6 j1 (by decide)
      have ux7 : x7.toInt = x6.toInt + y1.toInt := by rw [ex7]; exact iv_addE (by have z1 := (ix6).1; have z2 := (ix6).2; have z3 := (j1).1; have z4 := (j1).2; omega)
      refine th_iald S hK hH trf3 km_21 (th_in (hi := 9) ix7 (by decide)) dX11_comes_29 (fun v8 hv8 => ?_)
      obtain ⟨x9, rfl, kx9⟩ := th_eaR hv8 (th_lt (th_in (hi := 9) ix7 (by decide)))
      have ix9 := iv_top x9
      have jx9 := th_nat (hi := 9) ix7
      have hkt : x9.toInt = t := (kx9).trans ((congrArg q (by omega)).trans ht.symm)
      refine lv_icmp_ge (tgt := 143) hx hb dX11_comes_30 (by decide) (fun c10 => ?_) (fun c10 => ?_)
      · skip
        have rlc10 : x9.toInt ≤ v16_3.toInt := iv_le c10
        have ir11 : IV x9 (-2147483648) 1120 := iv_vL ix9 iv16_3 (iv_le c10) (by decide)
        have ir11a := ir11.1; have ir11b := ir11.2
        refine lv_aload_n hx hb dX11_comes_143 rfl (lv_at hl 0 rfl) ?_
        refine th_get S hK hH inG11 t0 km_0 rfl 40 (by decide) gm_1270 rfl rfl dX11_comes_144 (fun v12 hv12 fv12 => ?_)
        obtain ⟨rf13, rfl, trf13⟩ := th_V.ref hv12
        refine lv_iconst (v := 0) hx hb dX11_comes_147 (by decide) ?_
        refine th_iald S hK hH trf13 km_32 (th_in (hi := 0) (iv_c (by decide) : IV 0 0 0) (by decide)) dX11_comes_148 (fun v14 hv14 => ?_)
        obtain ⟨x15, rfl, ix15⟩ := th_V.int hv14
        exact th_iret S hK hH hS hr hlocks (th_R.i ix15) dX11_comes_149
      · skip
        have rlc10 : v16_3.toInt < x9.toInt := iv_nle c10
        have ir16 : IV x9 1 2147483647 := iv_uR iv16_3 ix9 (iv_nle c10) (by decide)
        have ir16a := ir16.1; have ir16b := ir16.2
        have ir17 : IV v16_3 0 1119 := ⟨by omega, by omega⟩
        have ir17a := ir17.1; have ir17b := ir17.2
        refine lv_aload_n hx hb dX11_comes_33 rfl (lv_at hl 0 rfl) ?_
        refine th_get S hK hH inG11 t0 km_0 rfl 36 (by decide) gm_1266 rfl rfl dX11_comes_34 (fun v18 hv18 fv18 => ?_)
        obtain ⟨rf19, rfl, trf19⟩ := th_V.ref hv18
        refine lv_iload_n hx hb dX11_comes_37 rfl (lv_at hl 3 rfl) ?_
        refine th_iald S hK hH trf19 km_28 (th_in (hi := 1119) ir17 (by decide)) dX11_comes_38 (fun v20 hv20 => ?_)
        obtain ⟨x21, rfl, kx21⟩ := th_eaR hv20 (th_lt (th_in (hi := 1119) ir17 (by decide)))
        have ix21 := iv_top x21
        have jx21 := th_nat (hi := 1119) ir17
        refine lv_istore (lv' := [(4, .int x21), (0, .ref a0), (1, .int y1), (2, .int v16_2), (3, .int v16_3)]) hx hb dX11_comes_39 hl (by decide) rfl (fun ls hl => ?_)
        have hc := cstep hg1 v16_inv0 (show v16_3.toInt < t by omega) hg4 ((kx21).trans (congrArg q (show 1000 + v16_3.toNatClampNeg = 1000 + v16_3.toInt.toNat by omega)))
        refine lv_iload hx hb dX11_comes_41 (lv_at hl 0 rfl) ?_
        refine lv_bipush (v := 126) hx hb dX11_comes_43 (by decide) ?_
        refine lv_icmp_ne (tgt := 75) hx hb dX11_comes_45 (by decide) (fun c22 => ?_) (fun c22 => ?_)
        · skip
          have rlc22 : x21.toInt ≠ (126 : Int) := iv_ne c22
          refine lv_iload hx hb dX11_comes_75 (lv_at hl 0 rfl) ?_
          refine th_callSp (n := 1) (As := [.int x21]) S hK hH hS (th_A.sub (by decide)) (m_X11_isLetter l D cT T q hT hq (x21) ix21) gm_1452 gm_1450 gm_1451 gm_124 (by decide +kernel) ⟨rfl, rfl, Nat.le_of_ble_eq_true rfl, Nat.le_of_ble_eq_true rfl⟩ rfl hl.1 rfl (Nat.le_of_ble_eq_true rfl) dX11_comes_77 ⟨Nat.zero_le _, Nat.zero_le _⟩ (fun x23 H locs ix23 ox23 hH hS hF1 => ?_)
          obtain ⟨ox23_0, ox23_1⟩ := ox23
          have ox23_0 : x23.toInt ≠ 0 → 97 ≤ x21.toInt ∧ x21.toInt ≤ 122 := ox23_0
          have ox23_1 : x23.toInt = 0 → x21.toInt < 97 ∨ 122 < x21.toInt := ox23_1
          refine lv_if_eq (tgt := 107) hx hb dX11_comes_80 (by decide) (fun c24 => ?_) (fun c24 => ?_)
          · skip
            have rlc24 : x23.toInt = (0 : Int) := congrArg Int32.toInt c24
            have ir25 : IV x23 0 0 := iv_eL c24 (iv_c (by decide) : IV 0 0 0)
            have ir25a := ir25.1; have ir25b := ir25.2
            have hd := hc.2.2 (by omega) (by omega)
            have hd1 := hd.1; have hd2 := hd.2
            have ir26 : IV v16_2 2 60 := ⟨by omega, by omega⟩
            have ir26a := ir26.1; have ir26b := ir26.2
            refine th_iinc S dX11_comes_107 hl (k := 3) rfl (by decide) ir26 (by decide) (fun x27 ls ex27 ix27 hl => ?_)
            have hl : lv_has ls 5 [(2, .int x27), (4, .int x21), (0, .ref a0), (1, .int y1), (3, .int v16_3)] := hl
            have ix27 : IV x27 1 59 := ix27
            refine lv_aload_n hx hb dX11_comes_110 rfl (lv_at hl 2 rfl) ?_
            refine th_get S hK hH inG11 t0 km_0 rfl 40 (by decide) gm_1270 rfl rfl dX11_comes_111 (fun v28 hv28 fv28 => ?_)
            obtain ⟨rf29, rfl, trf29⟩ := th_V.ref hv28
            refine lv_iload_n hx hb dX11_comes_114 rfl (lv_at hl 0 rfl) ?_
            refine lv_iconst (v := 1) hx hb dX11_comes_115 (by decide) ?_
            refine lv_isub hx hb dX11_comes_116 ?_
            refine lv_topi (fun x30 ex30 => ?_)
            have ix30 : IV x30 0 58 := by rw [ex30]; exact iv_sub ix27 (iv_c (by decide) : IV 1 1 1) (by decide)
            have ux30 : x30.toInt = x27.toInt - (1 : Int) := by rw [ex30]; exact iv_subE (by have z1 := (ix27).1; have z2 := (ix27).2; have z3 := ((iv_c (by decide) : IV 1 1 1)).1; have z4 := ((iv_c (by decide) : IV 1 1 1)).2; omega)
            refine lv_iload hx hb dX11_comes_117 (lv_at hl 1 rfl) ?_
            refine lv_aload_n hx hb dX11_comes_119 rfl (lv_at hl 2 rfl) ?_
            refine th_getK S hK fv28 inG11 rfl (by decide) gm_1270 rfl dX11_comes_120 ?_
            refine lv_iload_n hx hb dX11_comes_123 rfl (lv_at hl 0 rfl) ?_
            refine lv_iconst (v := 1) hx hb dX11_comes_124 (by decide) ?_
            refine lv_isub hx hb dX11_comes_125 ?_
            refine lv_topi (fun x32 ex32 => ?_)
            have zx32 : x30 = x32 := ex30.trans ex32.symm
            subst zx32
            refine th_iald S hK hH trf29 km_32 (th_in (hi := 58) ix30 (by decide)) dX11_comes_126 (fun v33 hv33 => ?_)
            obtain ⟨x34, rfl, ix34⟩ := th_V.int hv33
            refine lv_aload_n hx hb dX11_comes_127 rfl (lv_at hl 2 rfl) ?_
            refine th_getK S hK fv28 inG11 rfl (by decide) gm_1270 rfl dX11_comes_128 ?_
            refine lv_iload_n hx hb dX11_comes_131 rfl (lv_at hl 0 rfl) ?_
            refine th_iald S hK hH trf29 km_32 (th_in (hi := 59) (iv_w ix27 (by decide)) (by decide)) dX11_comes_132 (fun v36 hv36 => ?_)
            obtain ⟨x37, rfl, ix37⟩ := th_V.int hv36
            refine th_callSi (n := 3) (As := [.int x21, .int x34, .int x37]) S hK hH hS (th_A.sub (by decide)) (m_X11_two l D cT T q hT hq (x21) ix21 (x34) ix34 (x37) ix37) gm_1644 gm_1642 gm_1643 gm_124 (by decide +kernel) ⟨rfl, rfl, Nat.le_of_ble_eq_true rfl, Nat.le_of_ble_eq_true rfl⟩ rfl hl.1 rfl (Nat.le_of_ble_eq_true rfl) dX11_comes_133 ⟨Nat.zero_le _, Nat.zero_le _⟩ (fun x38 H locs ix38 hH hS hF1 => ?_)
            have f39 := fv28.kept (hF1 _ fv28.lt (th_off t0 (by decide)))
            refine th_iast S hK hH hS ⟨32, by decide, trf29⟩ trf29 km_32 (th_in (hi := 58) ix30 (by decide)) (th_iv ix38) dX11_comes_136 (fun H locs hH hS hq1 => ?_)
            have f40 := f39.kept (hq1 _ (th_ne t0 trf29 (by decide)))
            exact J137 H locs ls x27 (iv_w ix27 (by decide)) ir17 (show cinv q f x27.toInt (v16_3.toInt + 1) by first | assumption | (rw [ex27]; assumption)) (show v16_3.toInt < t by omega) hH hS (lv_sub hl [2, 3, 0, 4] rfl)
          · skip
            have rlc24 : x23.toInt ≠ (0 : Int) := iv_ne c24
            have ir41 : IV x23 1 1 := iv_cutL ix23 (iv_c (by decide) : IV 0 0 0) c24 (by decide)
            have ir41a := ir41.1; have ir41b := ir41.2
            have hd := hc.2.1 (by omega) (by omega) (by omega)
            have hd1 := hd.1; have hd2 := hd.2
            have ir42 : IV v16_2 0 59 := ⟨by omega, by omega⟩
            have ir42a := ir42.1; have ir42b := ir42.2
            refine lv_aload_n hx hb dX11_comes_83 rfl (lv_at hl 1 rfl) ?_
            refine th_get S hK hH inG11 t0 km_0 rfl 40 (by decide) gm_1270 rfl rfl dX11_comes_84 (fun v43 hv43 fv43 => ?_)
            obtain ⟨rf44, rfl, trf44⟩ := th_V.ref hv43
            refine lv_iload_n hx hb dX11_comes_87 rfl (lv_at hl 3 rfl) ?_
            refine lv_aload_n hx hb dX11_comes_88 rfl (lv_at hl 1 rfl) ?_
            refine lv_iload hx hb dX11_comes_89 (lv_at hl 0 rfl) ?_
            refine lv_aload_n hx hb dX11_comes_91 rfl (lv_at hl 1 rfl) ?_
            refine th_get S hK hH inG11 t0 km_0 rfl 37 (by decide) gm_1267 rfl rfl dX11_comes_92 (fun v45 hv45 fv45 => ?_)
            obtain ⟨rf46, rfl, trf46⟩ := th_V.ref hv45
            refine lv_iload_n hx hb dX11_comes_95 rfl (lv_at hl 4 rfl) ?_
            refine th_iald S hK hH trf46 km_29 (th_in (hi := 1119) ir17 (by decide)) dX11_comes_96 (fun v47 hv47 => ?_)
            obtain ⟨x48, rfl, ix48⟩ := th_V.int hv47
            refine th_callVi (n := 2) (As := [.int x21, .int x48]) S hK hH hS (th_A.sub (by decide)) (m_X11_asked l D cT T q hT hq a0 t0 (x21) ix21 (x48) ix48) gm_1641 gm_1638 gm_1640 gm_83 gm_124 (by decide +kernel) ⟨rfl, rfl, Nat.le_of_ble_eq_true rfl, Nat.le_of_ble_eq_true rfl⟩ t0 km_0 rfl rfl hl.1 rfl (Nat.le_of_ble_eq_true rfl) dX11_comes_97 ⟨Nat.zero_le _, Nat.zero_le _⟩ (fun x49 H locs ix49 hH hS hF1 => ?_)
            have f50 := fv43.kept (hF1 _ fv43.lt (th_off t0 (by decide)))
            refine th_iast S hK hH hS ⟨32, by decide, trf44⟩ trf44 km_32 (th_in (hi := 59) ir42 (by decide)) (th_iv ix49) dX11_comes_100 (fun H locs hH hS hq1 => ?_)
            have f51 := f50.kept (hq1 _ (th_ne t0 trf44 (by decide)))
            refine th_iinc S dX11_comes_101 hl (k := 3) rfl (by decide) ir42 (by decide) (fun x52 ls ex52 ix52 hl => ?_)
            have hl : lv_has ls 5 [(2, .int x52), (4, .int x21), (0, .ref a0), (1, .int y1), (3, .int v16_3)] := hl
            have ix52 : IV x52 1 60 := ix52
            refine lv_goto (tgt := 137) hx hb dX11_comes_104 (by decide) ?_
            exact J137 H locs ls x52 (iv_w ix52 (by decide)) ir17 (show cinv q f x52.toInt (v16_3.toInt + 1) by first | assumption | (rw [ex52]; assumption)) (show v16_3.toInt < t by omega) hH hS (lv_sub hl [2, 3, 0, 4] rfl)
        · skip
          have rlc22 : x21.toInt = (126 : Int) := congrArg Int32.toInt c22
          have ir53 : IV x21 126 126 := iv_eL c22 (iv_c (by decide) : IV 126 126 126)
          have ir53a := ir53.1; have ir53b := ir53.2
          have hd := hc.1 (by omega)
          have hd1 := hd.1; have hd2 := hd.2
          have ir54 : IV v16_2 1 60 := ⟨by omega, by omega⟩
          have ir54a := ir54.1; have ir54b := ir54.2
          refine lv_aload_n hx hb dX11_comes_48 rfl (lv_at hl 1 rfl) ?_
          refine th_get S hK hH inG11 t0 km_0 rfl 40 (by decide) gm_1270 rfl rfl dX11_comes_49 (fun v55 hv55 fv55 => ?_)
          obtain ⟨rf56, rfl, trf56⟩ := th_V.ref hv55
          refine lv_iload_n hx hb dX11_comes_52 rfl (lv_at hl 3 rfl) ?_
          refine lv_iconst (v := 1) hx hb dX11_comes_53 (by decide) ?_
          refine lv_isub hx hb dX11_comes_54 ?_
          refine lv_topi (fun x57 ex57 => ?_)
          have ix57 : IV x57 0 59 := by rw [ex57]; exact iv_sub ir54 (iv_c (by decide) : IV 1 1 1) (by decide)
          have ux57 : x57.toInt = v16_2.toInt - (1 : Int) := by rw [ex57]; exact iv_subE (by have z1 := (ir54).1; have z2 := (ir54).2; have z3 := ((iv_c (by decide) : IV 1 1 1)).1; have z4 := ((iv_c (by decide) : IV 1 1 1)).2; omega)
          refine lv_aload_n hx hb dX11_comes_55 rfl (lv_at hl 1 rfl) ?_
          refine th_getK S hK fv55 inG11 rfl (by decide) gm_1270 rfl dX11_comes_56 ?_
          refine lv_iload_n hx hb dX11_comes_59 rfl (lv_at hl 3 rfl) ?_
          refine lv_iconst (v := 1) hx hb dX11_comes_60 (by decide) ?_
          refine lv_isub hx hb dX11_comes_61 ?_
          refine lv_topi (fun x59 ex59 => ?_)
          have zx59 : x57 = x59 := ex57.trans ex59.symm
          subst zx59
          refine th_iald S hK hH trf56 km_32 (th_in (hi := 59) ix57 (by decide)) dX11_comes_62 (fun v60 hv60 => ?_)
          obtain ⟨x61, rfl, ix61⟩ := th_V.int hv60
          refine lv_if_ne (tgt := 70) hx hb dX11_comes_63 (by decide) (fun c62 => ?_) (fun c62 => ?_)
          · skip
            have rlc62 : x61.toInt ≠ (0 : Int) := iv_ne c62
            refine lv_iconst (v := 0) hx hb dX11_comes_70 (by decide) ?_
            exact J71_s2_0 H locs ls rf56 x57 trf56 ix57 ir54 ir17 (show cinv q f v16_2.toInt (v16_3.toInt + 1) by first | assumption | (rw [ev16_2]; assumption)) (show v16_3.toInt < t by omega) hH hS (lv_sub hl [1, 2, 3, 4] rfl)
          · skip
            have rlc62 : x61.toInt = (0 : Int) := congrArg Int32.toInt c62
            have ir63 : IV x61 0 0 := iv_eL c62 (iv_c (by decide) : IV 0 0 0)
            have ir63a := ir63.1; have ir63b := ir63.2
            refine lv_iconst (v := 1) hx hb dX11_comes_66 (by decide) ?_
            refine lv_goto (tgt := 71) hx hb dX11_comes_67 (by decide) ?_
            exact J71_s2_1 H locs ls rf56 x57 trf56 ix57 ir54 ir17 (show cinv q f v16_2.toInt (v16_3.toInt + 1) by first | assumption | (rw [ev16_2]; assumption)) (show v16_3.toInt < t by omega) hH hS (lv_sub hl [1, 2, 3, 4] rfl)
  have J0 : ∀ (H : Heap) (locs : List Loc) (ls : Array Slot), th_H D cT T (km q) H → va_S (th_A T [32]) s.heap H locs → lv_has ls 5 [(0, .ref a0), (1, .int y1)] → W p l e (rmk 1 22) s m [.ref a0, .int y1].toArray below meth c H locs 0 0 (MQ below (th_Q D cT T (km q) (th_R T (some (.inl (-2147483648, 2147483647)))) [32]) [.ref a0, .int y1].toArray s 0 0 (th_A T [32])) (F0 m 0 ls []) := by
    intro H locs ls hH hS hl
    refine lv_iconst (v := 0) hx hb dX11_comes_0 (by decide) ?_
    refine lv_istore_n (lv' := [(2, .int 0), (0, .ref a0), (1, .int y1)]) hx hb dX11_comes_1 rfl hl (by decide) rfl (fun ls hl => ?_)
    refine lv_aload_n hx hb dX11_comes_2 rfl (lv_at hl 1 rfl) ?_
    refine th_get S hK hH inG11 t0 km_0 rfl 28 (by decide) gm_1258 rfl rfl dX11_comes_3 (fun v64 hv64 fv64 => ?_)
    obtain ⟨rf65, rfl, trf65⟩ := th_V.ref hv64
    refine lv_iconst (v := 5) hx hb dX11_comes_6 (by decide) ?_
    refine lv_aload_n hx hb dX11_comes_7 rfl (lv_at hl 1 rfl) ?_
    refine th_get S hK hH inG11 t0 km_0 rfl 41 (by decide) gm_1271 rfl rfl dX11_comes_8 (fun v66 hv66 fv66 => ?_)
    obtain ⟨x67, rfl, ix67⟩ := th_V.int hv66
    have kx67a : q 10 ≤ x67.toInt := ix67.1
    have kx67b : x67.toInt ≤ q 10 := ix67.2
    have ix67 : IV x67 0 1 := iv_w ix67 (qkm_10 hq)
    refine lv_imul hx hb dX11_comes_11 ?_
    refine lv_topi (fun x68 ex68 => ?_)
    have ix68 : IV x68 0 5 := by rw [ex68]; exact iv_mul (iv_c (by decide) : IV 5 5 5) ix67 (by decide) (by decide)
    have ux68 : x68.toInt = (5 : Int) * x67.toInt := by rw [ex68]; exact iv_mulE (iv_corner ((iv_c (by decide) : IV 5 5 5)).1 ((iv_c (by decide) : IV 5 5 5)).2 (ix67).1 (ix67).2 (by decide))
    refine lv_iload_n hx hb dX11_comes_12 rfl (lv_at hl 2 rfl) ?_
    refine lv_iadd hx hb dX11_comes_13 ?_
    refine lv_topi (fun x69 ex69 => ?_)
    have ix69 : IV x69 0 9 := by rw [ex69]; exact iv_add ix68 j1 (by decide)
    have ux69 : x69.toInt = x68.toInt + y1.toInt := by rw [ex69]; exact iv_addE (by have z1 := (ix68).1; have z2 := (ix68).2; have z3 := (j1).1; have z4 := (j1).2; omega)
    refine th_iald S hK hH trf65 km_20 (th_in (hi := 9) ix69 (by decide)) dX11_comes_14 (fun v70 hv70 => ?_)
    obtain ⟨x71, rfl, kx71⟩ := th_eaR hv70 (th_lt (th_in (hi := 9) ix69 (by decide)))
    have ix71 := iv_top x71
    have jx71 := th_nat (hi := 9) ix69
    have hkf : x71.toInt = f := (kx71).trans ((congrArg q (by omega)).trans hf.symm)
    refine lv_istore_n (lv' := [(3, .int x71), (2, .int 0), (0, .ref a0), (1, .int y1)]) hx hb dX11_comes_15 rfl hl (by decide) rfl (fun ls hl => ?_)
    exact J16 ((1120 + 1 - Int32.toInt x71).toNat + 1) H locs ls 0 x71 (iv_w (iv_c (by decide) : IV 0 0 0) (by decide)) (show IV x71 0 1120 by have z1 := (ix71).1; have z2 := (ix71).2; exact ⟨by omega, by omega⟩) (show cinv q f (0 : Int) x71.toInt by first | exact cinv0 hkf | (rw [ex71]; assumption)) (show x71.toInt ≤ t by omega) hH hS (lv_sub hl [2, 3, 1, 0] rfl) (Nat.lt_succ_self _)
  exact J0 s.heap [] ls hH va_S.rf hl

set_option maxRecDepth 100000 in
theorem m_X11_fault (l : Launch) (D : va_G) (cT : Nat → ClassId) (T : Nat → Option Nat) (q : Nat → Int) (hT : tokm T) (hq : qkm q) (a0 : Nat) (t0 : T a0 = some 0) (y1 : Int32) (j1 : IV y1 (-2147483648) 2147483647) : th_Met l D cT T (km q) yX11_fault cX11_fault 2 (some .int) (rmk 0 0) [.ref a0, .int y1] (th_R T (some (.inl (-2147483648, 2147483647)))) [] := by
  refine th_start (by decide) (Nat.le_of_ble_eq_true rfl) ?_
  intro p e s m below meth c ls S hK hH hr hlocks hnm hl
  have hx := S.1
  have hb := S.2.1
  have hl : lv_has ls 2 [(0, .ref a0), (1, .int y1)] := hl
  have J24 : ∀ (H : Heap) (locs : List Loc) (ls : Array Slot) (w24_0 : Int32), IV w24_0 (-2147483648) 2147483647 → th_H D cT T (km q) H → va_S (th_A T []) s.heap H locs → lv_has ls 2 [] → W p l e (rmk 0 0) s m [.ref a0, .int y1].toArray below meth c H locs 0 0 (MQ below (th_Q D cT T (km q) (th_R T (some (.inl (-2147483648, 2147483647)))) []) [.ref a0, .int y1].toArray s 0 0 (th_A T [])) (F0 m 24 ls [.int w24_0]) := by
    intro H locs ls w24_0 iw24_0 hH hS hl
    exact th_iret S hK hH hS hr hlocks (th_R.i iw24_0) dX11_fault_24
  have J24_s0_m1 : ∀ (H : Heap) (locs : List Loc) (ls : Array Slot), th_H D cT T (km q) H → va_S (th_A T []) s.heap H locs → lv_has ls 2 [] → W p l e (rmk 0 0) s m [.ref a0, .int y1].toArray below meth c H locs 0 0 (MQ below (th_Q D cT T (km q) (th_R T (some (.inl (-2147483648, 2147483647)))) []) [.ref a0, .int y1].toArray s 0 0 (th_A T [])) (F0 m 24 ls [.int (-1)]) := by
    intro H locs ls hH hS hl
    exact th_iret S hK hH hS hr hlocks (th_R.i (iv_top _)) dX11_fault_24
  have J0 : ∀ (H : Heap) (locs : List Loc) (ls : Array Slot), th_H D cT T (km q) H → va_S (th_A T []) s.heap H locs → lv_has ls 2 [(0, .ref a0), (1, .int y1)] → W p l e (rmk 0 0) s m [.ref a0, .int y1].toArray below meth c H locs 0 0 (MQ below (th_Q D cT T (km q) (th_R T (some (.inl (-2147483648, 2147483647)))) []) [.ref a0, .int y1].toArray s 0 0 (th_A T [])) (F0 m 0 ls []) := by
    intro H locs ls hH hS hl
    refine lv_iload_n hx hb dX11_fault_0 rfl (lv_at hl 1 rfl) ?_
    refine lv_if_ne (tgt := 11) hx hb dX11_fault_1 (by decide) (fun c1 => ?_) (fun c1 => ?_)
    · skip
      have rlc1 : y1.toInt ≠ (0 : Int) := iv_ne c1
      refine lv_iload_n hx hb dX11_fault_11 rfl (lv_at hl 1 rfl) ?_
      refine lv_iconst (v := 1) hx hb dX11_fault_12 (by decide) ?_
      refine lv_icmp_ne (tgt := 23) hx hb dX11_fault_13 (by decide) (fun c2 => ?_) (fun c2 => ?_)
      · skip
        have rlc2 : y1.toInt ≠ (1 : Int) := iv_ne c2
        refine lv_iconst (v := (-1)) hx hb dX11_fault_23 (by decide) ?_
        exact J24_s0_m1 H locs ls  hH hS (lv_sub hl [] rfl)
      · skip
        have rlc2 : y1.toInt = (1 : Int) := congrArg Int32.toInt c2
        have ir3 : IV y1 1 1 := iv_eL c2 (iv_c (by decide) : IV 1 1 1)
        have ir3a := ir3.1; have ir3b := ir3.2
        refine lv_aload_n hx hb dX11_fault_16 rfl (lv_at hl 0 rfl) ?_
        refine th_get S hK hH inG11 t0 km_0 rfl 5 (by decide) gm_1235 rfl rfl dX11_fault_17 (fun v4 hv4 fv4 => ?_)
        obtain ⟨x5, rfl, ix5⟩ := th_V.int hv4
        refine lv_goto (tgt := 24) hx hb dX11_fault_20 (by decide) ?_
        exact J24 H locs ls x5 ix5 hH hS (lv_sub hl [] rfl)
    · skip
      have rlc1 : y1.toInt = (0 : Int) := congrArg Int32.toInt c1
      have ir6 : IV y1 0 0 := iv_eL c1 (iv_c (by decide) : IV 0 0 0)
      have ir6a := ir6.1; have ir6b := ir6.2
      refine lv_aload_n hx hb dX11_fault_4 rfl (lv_at hl 0 rfl) ?_
      refine th_get S hK hH inG11 t0 km_0 rfl 4 (by decide) gm_1234 rfl rfl dX11_fault_5 (fun v7 hv7 fv7 => ?_)
      obtain ⟨x8, rfl, ix8⟩ := th_V.int hv7
      have kx8a : q 30 ≤ x8.toInt := ix8.1
      have kx8b : x8.toInt ≤ q 30 := ix8.2
      have ix8 : IV x8 0 5 := iv_w ix8 (qkm_30 hq)
      refine lv_goto (tgt := 24) hx hb dX11_fault_8 (by decide) ?_
      exact J24 H locs ls x8 (iv_top _) hH hS (lv_sub hl [] rfl)
  exact J0 s.heap [] ls hH va_S.rf hl

set_option maxRecDepth 100000 in
theorem m_X11_isIn (l : Launch) (D : va_G) (cT : Nat → ClassId) (T : Nat → Option Nat) (q : Nat → Int) (hT : tokm T) (hq : qkm q) (y0 : Int32) (j0 : IV y0 (-2147483648) 2147483647) (y1 : Int32) (j1 : IV y1 (-2147483648) 2147483647) (y2 : Int32) (j2 : IV y2 (-2147483648) 2147483647) : th_Met l D cT T (km q) yX11_isIn cX11_isIn 3 (some .boolean) (rmk 0 0) [.int y0, .int y1, .int y2] (th_RP 0 1 (fun r => (r.toInt ≠ 0 → y1.toInt ≤ y0.toInt ∧ y0.toInt ≤ y2.toInt) ∧ (r.toInt = 0 → y0.toInt < y1.toInt ∨ y2.toInt < y0.toInt))) [] := by
  refine th_start (by decide) (Nat.le_of_ble_eq_true rfl) ?_
  intro p e s m below meth c ls S hK hH hr hlocks hnm hl
  have hx := S.1
  have hb := S.2.1
  have hl : lv_has ls 3 [(0, .int y0), (1, .int y1), (2, .int y2)] := hl
  have J15_s0_0 : ∀ (H : Heap) (locs : List Loc) (ls : Array Slot), ((0 : Int) ≠ 0 → y1.toInt ≤ y0.toInt ∧ y0.toInt ≤ y2.toInt) → ((0 : Int) = 0 → y0.toInt < y1.toInt ∨ y2.toInt < y0.toInt) → th_H D cT T (km q) H → va_S (th_A T []) s.heap H locs → lv_has ls 3 [] → W p l e (rmk 0 0) s m [.int y0, .int y1, .int y2].toArray below meth c H locs 0 0 (MQ below (th_Q D cT T (km q) (th_RP 0 1 (fun r => (r.toInt ≠ 0 → y1.toInt ≤ y0.toInt ∧ y0.toInt ≤ y2.toInt) ∧ (r.toInt = 0 → y0.toInt < y1.toInt ∨ y2.toInt < y0.toInt))) []) [.int y0, .int y1, .int y2].toArray s 0 0 (th_A T [])) (F0 m 15 ls [.int 0]) := by
    intro H locs ls v15_inv0 v15_inv1 hH hS hl
    exact th_zret S hK hH hS hr hlocks (iv_w (iv_c (by decide) : IV 0 0 0) (by decide)) (th_RP.i (iv_w (iv_c (by decide) : IV 0 0 0) (by decide)) ⟨(show (0 : Int) ≠ 0 → y1.toInt ≤ y0.toInt ∧ y0.toInt ≤ y2.toInt by first | assumption | (first | omega | (intro z; omega))), (show (0 : Int) = 0 → y0.toInt < y1.toInt ∨ y2.toInt < y0.toInt by first | assumption | (first | omega | (intro z; omega)))⟩) dX11_isIn_15
  have J15_s0_1 : ∀ (H : Heap) (locs : List Loc) (ls : Array Slot), ((1 : Int) ≠ 0 → y1.toInt ≤ y0.toInt ∧ y0.toInt ≤ y2.toInt) → ((1 : Int) = 0 → y0.toInt < y1.toInt ∨ y2.toInt < y0.toInt) → th_H D cT T (km q) H → va_S (th_A T []) s.heap H locs → lv_has ls 3 [] → W p l e (rmk 0 0) s m [.int y0, .int y1, .int y2].toArray below meth c H locs 0 0 (MQ below (th_Q D cT T (km q) (th_RP 0 1 (fun r => (r.toInt ≠ 0 → y1.toInt ≤ y0.toInt ∧ y0.toInt ≤ y2.toInt) ∧ (r.toInt = 0 → y0.toInt < y1.toInt ∨ y2.toInt < y0.toInt))) []) [.int y0, .int y1, .int y2].toArray s 0 0 (th_A T [])) (F0 m 15 ls [.int 1]) := by
    intro H locs ls v15_inv0 v15_inv1 hH hS hl
    exact th_zret S hK hH hS hr hlocks (iv_w (iv_c (by decide) : IV 1 1 1) (by decide)) (th_RP.i (iv_w (iv_c (by decide) : IV 1 1 1) (by decide)) ⟨(show (1 : Int) ≠ 0 → y1.toInt ≤ y0.toInt ∧ y0.toInt ≤ y2.toInt by first | assumption | (first | omega | (intro z; omega))), (show (1 : Int) = 0 → y0.toInt < y1.toInt ∨ y2.toInt < y0.toInt by first | assumption | (first | omega | (intro z; omega)))⟩) dX11_isIn_15
  have J14 : ∀ (H : Heap) (locs : List Loc) (ls : Array Slot), (y0.toInt < y1.toInt ∨ y2.toInt < y0.toInt) → th_H D cT T (km q) H → va_S (th_A T []) s.heap H locs → lv_has ls 3 [] → W p l e (rmk 0 0) s m [.int y0, .int y1, .int y2].toArray below meth c H locs 0 0 (MQ below (th_Q D cT T (km q) (th_RP 0 1 (fun r => (r.toInt ≠ 0 → y1.toInt ≤ y0.toInt ∧ y0.toInt ≤ y2.toInt) ∧ (r.toInt = 0 → y0.toInt < y1.toInt ∨ y2.toInt < y0.toInt))) []) [.int y0, .int y1, .int y2].toArray s 0 0 (th_A T [])) (F0 m 14 ls []) := by
    intro H locs ls v14_inv0 hH hS hl
    refine lv_iconst (v := 0) hx hb dX11_isIn_14 (by decide) ?_
    exact J15_s0_0 H locs ls (show (0 : Int) ≠ 0 → y1.toInt ≤ y0.toInt ∧ y0.toInt ≤ y2.toInt by first | omega | (intro z; omega)) (show (0 : Int) = 0 → y0.toInt < y1.toInt ∨ y2.toInt < y0.toInt by first | omega | (intro z; omega)) hH hS (lv_sub hl [] rfl)
  have J0 : ∀ (H : Heap) (locs : List Loc) (ls : Array Slot), th_H D cT T (km q) H → va_S (th_A T []) s.heap H locs → lv_has ls 3 [(0, .int y0), (1, .int y1), (2, .int y2)] → W p l e (rmk 0 0) s m [.int y0, .int y1, .int y2].toArray below meth c H locs 0 0 (MQ below (th_Q D cT T (km q) (th_RP 0 1 (fun r => (r.toInt ≠ 0 → y1.toInt ≤ y0.toInt ∧ y0.toInt ≤ y2.toInt) ∧ (r.toInt = 0 → y0.toInt < y1.toInt ∨ y2.toInt < y0.toInt))) []) [.int y0, .int y1, .int y2].toArray s 0 0 (th_A T [])) (F0 m 0 ls []) := by
    intro H locs ls hH hS hl
    refine lv_iload_n hx hb dX11_isIn_0 rfl (lv_at hl 0 rfl) ?_
    refine lv_iload_n hx hb dX11_isIn_1 rfl (lv_at hl 1 rfl) ?_
    refine lv_icmp_lt (tgt := 14) hx hb dX11_isIn_2 (by decide) (fun c1 => ?_) (fun c1 => ?_)
    · skip
      have rlc1 : y0.toInt < y1.toInt := iv_lt c1
      have ir2 : IV y0 (-2147483648) 2147483646 := iv_uL j0 j1 (iv_lt c1) (by decide)
      have ir2a := ir2.1; have ir2b := ir2.2
      have ir3 : IV y1 (-2147483647) 2147483647 := iv_uR j0 j1 (iv_lt c1) (by decide)
      have ir3a := ir3.1; have ir3b := ir3.2
      exact J14 H locs ls (show y0.toInt < y1.toInt ∨ y2.toInt < y0.toInt by omega) hH hS (lv_sub hl [] rfl)
    · skip
      have rlc1 : y1.toInt ≤ y0.toInt := iv_nlt c1
      refine lv_iload_n hx hb dX11_isIn_5 rfl (lv_at hl 0 rfl) ?_
      refine lv_iload_n hx hb dX11_isIn_6 rfl (lv_at hl 2 rfl) ?_
      refine lv_icmp_gt (tgt := 14) hx hb dX11_isIn_7 (by decide) (fun c4 => ?_) (fun c4 => ?_)
      · skip
        have rlc4 : y2.toInt < y0.toInt := iv_lt c4
        have ir5 : IV y2 (-2147483648) 2147483646 := iv_uL j2 j0 (iv_lt c4) (by decide)
        have ir5a := ir5.1; have ir5b := ir5.2
        have ir6 : IV y0 (-2147483647) 2147483647 := iv_uR j2 j0 (iv_lt c4) (by decide)
        have ir6a := ir6.1; have ir6b := ir6.2
        exact J14 H locs ls (show y0.toInt < y1.toInt ∨ y2.toInt < y0.toInt by omega) hH hS (lv_sub hl [] rfl)
      · skip
        have rlc4 : y0.toInt ≤ y2.toInt := iv_nlt c4
        refine lv_iconst (v := 1) hx hb dX11_isIn_10 (by decide) ?_
        refine lv_goto (tgt := 15) hx hb dX11_isIn_11 (by decide) ?_
        exact J15_s0_1 H locs ls (show (1 : Int) ≠ 0 → y1.toInt ≤ y0.toInt ∧ y0.toInt ≤ y2.toInt by first | omega | (intro z; omega)) (show (1 : Int) = 0 → y0.toInt < y1.toInt ∨ y2.toInt < y0.toInt by first | omega | (intro z; omega)) hH hS (lv_sub hl [] rfl)
  exact J0 s.heap [] ls hH va_S.rf hl
