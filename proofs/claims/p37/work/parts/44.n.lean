theorem dX11_two_0 : decode cX11_two 0 = .ok (.iload_n 0, 1) := by decide +kernel
theorem dX11_two_1 : decode cX11_two 1 = .ok (.tableswitch 202 37 62 #[143, 188, 202, 202, 202, 127, 119, 202, 123, 202, 131, 202, 202, 202, 202, 202, 202, 202, 202, 202, 202, 202, 202, 155, 177, 166], 119) := by decide +kernel
theorem dX11_two_120 : decode cX11_two 120 = .ok (.iload_n 1, 1) := by decide +kernel
theorem dX11_two_121 : decode cX11_two 121 = .ok (.iload_n 2, 1) := by decide +kernel
theorem dX11_two_122 : decode cX11_two 122 = .ok (.iadd, 1) := by decide +kernel
theorem dX11_two_123 : decode cX11_two 123 = .ok (.ireturn, 1) := by decide +kernel
theorem dX11_two_124 : decode cX11_two 124 = .ok (.iload_n 1, 1) := by decide +kernel
theorem dX11_two_125 : decode cX11_two 125 = .ok (.iload_n 2, 1) := by decide +kernel
theorem dX11_two_126 : decode cX11_two 126 = .ok (.isub, 1) := by decide +kernel
theorem dX11_two_127 : decode cX11_two 127 = .ok (.ireturn, 1) := by decide +kernel
theorem dX11_two_128 : decode cX11_two 128 = .ok (.iload_n 1, 1) := by decide +kernel
theorem dX11_two_129 : decode cX11_two 129 = .ok (.iload_n 2, 1) := by decide +kernel
theorem dX11_two_130 : decode cX11_two 130 = .ok (.imul, 1) := by decide +kernel
theorem dX11_two_131 : decode cX11_two 131 = .ok (.ireturn, 1) := by decide +kernel
theorem dX11_two_132 : decode cX11_two 132 = .ok (.iload_n 2, 1) := by decide +kernel
theorem dX11_two_133 : decode cX11_two 133 = .ok (.ifCond .ne 7, 3) := by decide +kernel
theorem dX11_two_136 : decode cX11_two 136 = .ok (.iconst 0, 1) := by decide +kernel
theorem dX11_two_137 : decode cX11_two 137 = .ok (.goto 6, 3) := by decide +kernel
theorem dX11_two_140 : decode cX11_two 140 = .ok (.iload_n 1, 1) := by decide +kernel
theorem dX11_two_141 : decode cX11_two 141 = .ok (.iload_n 2, 1) := by decide +kernel
theorem dX11_two_142 : decode cX11_two 142 = .ok (.idiv, 1) := by decide +kernel
theorem dX11_two_143 : decode cX11_two 143 = .ok (.ireturn, 1) := by decide +kernel
theorem dX11_two_144 : decode cX11_two 144 = .ok (.iload_n 2, 1) := by decide +kernel
theorem dX11_two_145 : decode cX11_two 145 = .ok (.ifCond .ne 7, 3) := by decide +kernel
theorem dX11_two_148 : decode cX11_two 148 = .ok (.iconst 0, 1) := by decide +kernel
theorem dX11_two_149 : decode cX11_two 149 = .ok (.goto 6, 3) := by decide +kernel
theorem dX11_two_152 : decode cX11_two 152 = .ok (.iload_n 1, 1) := by decide +kernel
theorem dX11_two_153 : decode cX11_two 153 = .ok (.iload_n 2, 1) := by decide +kernel
theorem dX11_two_154 : decode cX11_two 154 = .ok (.irem, 1) := by decide +kernel
theorem dX11_two_155 : decode cX11_two 155 = .ok (.ireturn, 1) := by decide +kernel
theorem dX11_two_156 : decode cX11_two 156 = .ok (.iload_n 1, 1) := by decide +kernel
theorem dX11_two_157 : decode cX11_two 157 = .ok (.iload_n 2, 1) := by decide +kernel
theorem dX11_two_158 : decode cX11_two 158 = .ok (.if_icmp .ge 7, 3) := by decide +kernel
theorem dX11_two_161 : decode cX11_two 161 = .ok (.iconst 1, 1) := by decide +kernel
theorem dX11_two_162 : decode cX11_two 162 = .ok (.goto 4, 3) := by decide +kernel
theorem dX11_two_165 : decode cX11_two 165 = .ok (.iconst 0, 1) := by decide +kernel
theorem dX11_two_166 : decode cX11_two 166 = .ok (.ireturn, 1) := by decide +kernel
theorem dX11_two_167 : decode cX11_two 167 = .ok (.iload_n 1, 1) := by decide +kernel
theorem dX11_two_168 : decode cX11_two 168 = .ok (.iload_n 2, 1) := by decide +kernel
theorem dX11_two_169 : decode cX11_two 169 = .ok (.if_icmp .le 7, 3) := by decide +kernel
theorem dX11_two_172 : decode cX11_two 172 = .ok (.iconst 1, 1) := by decide +kernel
theorem dX11_two_173 : decode cX11_two 173 = .ok (.goto 4, 3) := by decide +kernel
theorem dX11_two_176 : decode cX11_two 176 = .ok (.iconst 0, 1) := by decide +kernel
theorem dX11_two_177 : decode cX11_two 177 = .ok (.ireturn, 1) := by decide +kernel
theorem dX11_two_178 : decode cX11_two 178 = .ok (.iload_n 1, 1) := by decide +kernel
theorem dX11_two_179 : decode cX11_two 179 = .ok (.iload_n 2, 1) := by decide +kernel
theorem dX11_two_180 : decode cX11_two 180 = .ok (.if_icmp .ne 7, 3) := by decide +kernel
theorem dX11_two_183 : decode cX11_two 183 = .ok (.iconst 1, 1) := by decide +kernel
theorem dX11_two_184 : decode cX11_two 184 = .ok (.goto 4, 3) := by decide +kernel
theorem dX11_two_187 : decode cX11_two 187 = .ok (.iconst 0, 1) := by decide +kernel
theorem dX11_two_188 : decode cX11_two 188 = .ok (.ireturn, 1) := by decide +kernel
theorem dX11_two_189 : decode cX11_two 189 = .ok (.iload_n 1, 1) := by decide +kernel
theorem dX11_two_190 : decode cX11_two 190 = .ok (.ifCond .eq 11, 3) := by decide +kernel
theorem dX11_two_193 : decode cX11_two 193 = .ok (.iload_n 2, 1) := by decide +kernel
theorem dX11_two_194 : decode cX11_two 194 = .ok (.ifCond .eq 7, 3) := by decide +kernel
theorem dX11_two_197 : decode cX11_two 197 = .ok (.iconst 1, 1) := by decide +kernel
theorem dX11_two_198 : decode cX11_two 198 = .ok (.goto 4, 3) := by decide +kernel
theorem dX11_two_201 : decode cX11_two 201 = .ok (.iconst 0, 1) := by decide +kernel
theorem dX11_two_202 : decode cX11_two 202 = .ok (.ireturn, 1) := by decide +kernel
theorem dX11_two_203 : decode cX11_two 203 = .ok (.iload_n 1, 1) := by decide +kernel
theorem dX11_two_204 : decode cX11_two 204 = .ok (.ifCond .ne 7, 3) := by decide +kernel
theorem dX11_two_207 : decode cX11_two 207 = .ok (.iload_n 2, 1) := by decide +kernel
theorem dX11_two_208 : decode cX11_two 208 = .ok (.ifCond .eq 7, 3) := by decide +kernel
theorem dX11_two_211 : decode cX11_two 211 = .ok (.iconst 1, 1) := by decide +kernel
theorem dX11_two_212 : decode cX11_two 212 = .ok (.goto 4, 3) := by decide +kernel
theorem dX11_two_215 : decode cX11_two 215 = .ok (.iconst 0, 1) := by decide +kernel
theorem dX11_two_216 : decode cX11_two 216 = .ok (.ireturn, 1) := by decide +kernel
theorem dX11_asked_0 : decode cX11_asked 0 = .ok (.iload_n 1, 1) := by decide +kernel
theorem dX11_asked_1 : decode cX11_asked 1 = .ok (.tableswitch 152 99 122 #[129, 152, 124, 152, 152, 147, 152, 152, 152, 152, 152, 152, 152, 152, 152, 152, 111, 152, 152, 152, 142, 152, 116, 137], 111) := by decide +kernel
theorem dX11_asked_112 : decode cX11_asked 112 = .ok (.aload_n 0, 1) := by decide +kernel
theorem dX11_asked_113 : decode cX11_asked 113 = .ok (.getfield 362, 3) := by decide +kernel
theorem dX11_asked_116 : decode cX11_asked 116 = .ok (.ireturn, 1) := by decide +kernel
theorem dX11_asked_117 : decode cX11_asked 117 = .ok (.aload_n 0, 1) := by decide +kernel
theorem dX11_asked_118 : decode cX11_asked 118 = .ok (.getfield 113, 3) := by decide +kernel
theorem dX11_asked_121 : decode cX11_asked 121 = .ok (.bipush 40, 2) := by decide +kernel
theorem dX11_asked_123 : decode cX11_asked 123 = .ok (.iaload, 1) := by decide +kernel
theorem dX11_asked_124 : decode cX11_asked 124 = .ok (.ireturn, 1) := by decide +kernel
theorem dX11_asked_125 : decode cX11_asked 125 = .ok (.aload_n 0, 1) := by decide +kernel
theorem dX11_asked_126 : decode cX11_asked 126 = .ok (.getfield 365, 3) := by decide +kernel
theorem dX11_asked_129 : decode cX11_asked 129 = .ok (.ireturn, 1) := by decide +kernel
theorem dX11_asked_130 : decode cX11_asked 130 = .ok (.aload_n 0, 1) := by decide +kernel
theorem dX11_asked_131 : decode cX11_asked 131 = .ok (.getfield 113, 3) := by decide +kernel
theorem dX11_asked_134 : decode cX11_asked 134 = .ok (.bipush 41, 2) := by decide +kernel
theorem dX11_asked_136 : decode cX11_asked 136 = .ok (.iaload, 1) := by decide +kernel
theorem dX11_asked_137 : decode cX11_asked 137 = .ok (.ireturn, 1) := by decide +kernel
theorem dX11_asked_138 : decode cX11_asked 138 = .ok (.aload_n 0, 1) := by decide +kernel
theorem dX11_asked_139 : decode cX11_asked 139 = .ok (.getfield 368, 3) := by decide +kernel
theorem dX11_asked_142 : decode cX11_asked 142 = .ok (.ireturn, 1) := by decide +kernel
theorem dX11_asked_143 : decode cX11_asked 143 = .ok (.aload_n 0, 1) := by decide +kernel
theorem dX11_asked_144 : decode cX11_asked 144 = .ok (.getfield 371, 3) := by decide +kernel
theorem dX11_asked_147 : decode cX11_asked 147 = .ok (.ireturn, 1) := by decide +kernel
theorem dX11_asked_148 : decode cX11_asked 148 = .ok (.aload_n 0, 1) := by decide +kernel
theorem dX11_asked_149 : decode cX11_asked 149 = .ok (.getfield 374, 3) := by decide +kernel
theorem dX11_asked_152 : decode cX11_asked 152 = .ok (.ireturn, 1) := by decide +kernel
theorem dX11_asked_153 : decode cX11_asked 153 = .ok (.iload_n 2, 1) := by decide +kernel
theorem dX11_asked_154 : decode cX11_asked 154 = .ok (.ireturn, 1) := by decide +kernel
theorem dX11_comes_0 : decode cX11_comes 0 = .ok (.iconst 0, 1) := by decide +kernel
theorem dX11_comes_1 : decode cX11_comes 1 = .ok (.istore_n 2, 1) := by decide +kernel
theorem dX11_comes_2 : decode cX11_comes 2 = .ok (.aload_n 0, 1) := by decide +kernel
theorem dX11_comes_3 : decode cX11_comes 3 = .ok (.getfield 72, 3) := by decide +kernel
theorem dX11_comes_6 : decode cX11_comes 6 = .ok (.iconst 5, 1) := by decide +kernel
theorem dX11_comes_7 : decode cX11_comes 7 = .ok (.aload_n 0, 1) := by decide +kernel
theorem dX11_comes_8 : decode cX11_comes 8 = .ok (.getfield 273, 3) := by decide +kernel
theorem dX11_comes_11 : decode cX11_comes 11 = .ok (.imul, 1) := by decide +kernel
theorem dX11_comes_12 : decode cX11_comes 12 = .ok (.iload_n 1, 1) := by decide +kernel
theorem dX11_comes_13 : decode cX11_comes 13 = .ok (.iadd, 1) := by decide +kernel
theorem dX11_comes_14 : decode cX11_comes 14 = .ok (.iaload, 1) := by decide +kernel
theorem dX11_comes_15 : decode cX11_comes 15 = .ok (.istore_n 3, 1) := by decide +kernel
theorem dX11_comes_16 : decode cX11_comes 16 = .ok (.iload_n 3, 1) := by decide +kernel
theorem dX11_comes_17 : decode cX11_comes 17 = .ok (.aload_n 0, 1) := by decide +kernel
theorem dX11_comes_18 : decode cX11_comes 18 = .ok (.getfield 75, 3) := by decide +kernel
theorem dX11_comes_21 : decode cX11_comes 21 = .ok (.iconst 5, 1) := by decide +kernel
theorem dX11_comes_22 : decode cX11_comes 22 = .ok (.aload_n 0, 1) := by decide +kernel
theorem dX11_comes_23 : decode cX11_comes 23 = .ok (.getfield 273, 3) := by decide +kernel
theorem dX11_comes_26 : decode cX11_comes 26 = .ok (.imul, 1) := by decide +kernel
theorem dX11_comes_27 : decode cX11_comes 27 = .ok (.iload_n 1, 1) := by decide +kernel
theorem dX11_comes_28 : decode cX11_comes 28 = .ok (.iadd, 1) := by decide +kernel
theorem dX11_comes_29 : decode cX11_comes 29 = .ok (.iaload, 1) := by decide +kernel
theorem dX11_comes_30 : decode cX11_comes 30 = .ok (.if_icmp .ge 113, 3) := by decide +kernel
theorem dX11_comes_33 : decode cX11_comes 33 = .ok (.aload_n 0, 1) := by decide +kernel
theorem dX11_comes_34 : decode cX11_comes 34 = .ok (.getfield 98, 3) := by decide +kernel
theorem dX11_comes_37 : decode cX11_comes 37 = .ok (.iload_n 3, 1) := by decide +kernel
theorem dX11_comes_38 : decode cX11_comes 38 = .ok (.iaload, 1) := by decide +kernel
theorem dX11_comes_39 : decode cX11_comes 39 = .ok (.istore 4, 2) := by decide +kernel
theorem dX11_comes_41 : decode cX11_comes 41 = .ok (.iload 4, 2) := by decide +kernel
theorem dX11_comes_43 : decode cX11_comes 43 = .ok (.bipush 126, 2) := by decide +kernel
theorem dX11_comes_45 : decode cX11_comes 45 = .ok (.if_icmp .ne 30, 3) := by decide +kernel
theorem dX11_comes_48 : decode cX11_comes 48 = .ok (.aload_n 0, 1) := by decide +kernel
theorem dX11_comes_49 : decode cX11_comes 49 = .ok (.getfield 110, 3) := by decide +kernel
theorem dX11_comes_52 : decode cX11_comes 52 = .ok (.iload_n 2, 1) := by decide +kernel
theorem dX11_comes_53 : decode cX11_comes 53 = .ok (.iconst 1, 1) := by decide +kernel
theorem dX11_comes_54 : decode cX11_comes 54 = .ok (.isub, 1) := by decide +kernel
theorem dX11_comes_55 : decode cX11_comes 55 = .ok (.aload_n 0, 1) := by decide +kernel
theorem dX11_comes_56 : decode cX11_comes 56 = .ok (.getfield 110, 3) := by decide +kernel
theorem dX11_comes_59 : decode cX11_comes 59 = .ok (.iload_n 2, 1) := by decide +kernel
theorem dX11_comes_60 : decode cX11_comes 60 = .ok (.iconst 1, 1) := by decide +kernel
theorem dX11_comes_61 : decode cX11_comes 61 = .ok (.isub, 1) := by decide +kernel
theorem dX11_comes_62 : decode cX11_comes 62 = .ok (.iaload, 1) := by decide +kernel
theorem dX11_comes_63 : decode cX11_comes 63 = .ok (.ifCond .ne 7, 3) := by decide +kernel
theorem dX11_comes_66 : decode cX11_comes 66 = .ok (.iconst 1, 1) := by decide +kernel
theorem dX11_comes_67 : decode cX11_comes 67 = .ok (.goto 4, 3) := by decide +kernel
theorem dX11_comes_70 : decode cX11_comes 70 = .ok (.iconst 0, 1) := by decide +kernel
theorem dX11_comes_71 : decode cX11_comes 71 = .ok (.iastore, 1) := by decide +kernel
theorem dX11_comes_72 : decode cX11_comes 72 = .ok (.goto 65, 3) := by decide +kernel
theorem dX11_comes_75 : decode cX11_comes 75 = .ok (.iload 4, 2) := by decide +kernel
theorem dX11_comes_77 : decode cX11_comes 77 = .ok (.invokestatic 218, 3) := by decide +kernel
theorem dX11_comes_80 : decode cX11_comes 80 = .ok (.ifCond .eq 27, 3) := by decide +kernel
theorem dX11_comes_83 : decode cX11_comes 83 = .ok (.aload_n 0, 1) := by decide +kernel
theorem dX11_comes_84 : decode cX11_comes 84 = .ok (.getfield 110, 3) := by decide +kernel
theorem dX11_comes_87 : decode cX11_comes 87 = .ok (.iload_n 2, 1) := by decide +kernel
theorem dX11_comes_88 : decode cX11_comes 88 = .ok (.aload_n 0, 1) := by decide +kernel
theorem dX11_comes_89 : decode cX11_comes 89 = .ok (.iload 4, 2) := by decide +kernel
theorem dX11_comes_91 : decode cX11_comes 91 = .ok (.aload_n 0, 1) := by decide +kernel
theorem dX11_comes_92 : decode cX11_comes 92 = .ok (.getfield 101, 3) := by decide +kernel
theorem dX11_comes_95 : decode cX11_comes 95 = .ok (.iload_n 3, 1) := by decide +kernel
theorem dX11_comes_96 : decode cX11_comes 96 = .ok (.iaload, 1) := by decide +kernel
theorem dX11_comes_97 : decode cX11_comes 97 = .ok (.invokevirtual 377, 3) := by decide +kernel
theorem dX11_comes_100 : decode cX11_comes 100 = .ok (.iastore, 1) := by decide +kernel
theorem dX11_comes_101 : decode cX11_comes 101 = .ok (.iinc 2 1, 3) := by decide +kernel
theorem dX11_comes_104 : decode cX11_comes 104 = .ok (.goto 33, 3) := by decide +kernel
theorem dX11_comes_107 : decode cX11_comes 107 = .ok (.iinc 2 (-1), 3) := by decide +kernel
theorem dX11_comes_110 : decode cX11_comes 110 = .ok (.aload_n 0, 1) := by decide +kernel
theorem dX11_comes_111 : decode cX11_comes 111 = .ok (.getfield 110, 3) := by decide +kernel
theorem dX11_comes_114 : decode cX11_comes 114 = .ok (.iload_n 2, 1) := by decide +kernel
theorem dX11_comes_115 : decode cX11_comes 115 = .ok (.iconst 1, 1) := by decide +kernel
theorem dX11_comes_116 : decode cX11_comes 116 = .ok (.isub, 1) := by decide +kernel
theorem dX11_comes_117 : decode cX11_comes 117 = .ok (.iload 4, 2) := by decide +kernel
theorem dX11_comes_119 : decode cX11_comes 119 = .ok (.aload_n 0, 1) := by decide +kernel
theorem dX11_comes_120 : decode cX11_comes 120 = .ok (.getfield 110, 3) := by decide +kernel
theorem dX11_comes_123 : decode cX11_comes 123 = .ok (.iload_n 2, 1) := by decide +kernel
theorem dX11_comes_124 : decode cX11_comes 124 = .ok (.iconst 1, 1) := by decide +kernel
theorem dX11_comes_125 : decode cX11_comes 125 = .ok (.isub, 1) := by decide +kernel
theorem dX11_comes_126 : decode cX11_comes 126 = .ok (.iaload, 1) := by decide +kernel
theorem dX11_comes_127 : decode cX11_comes 127 = .ok (.aload_n 0, 1) := by decide +kernel
theorem dX11_comes_128 : decode cX11_comes 128 = .ok (.getfield 110, 3) := by decide +kernel
theorem dX11_comes_131 : decode cX11_comes 131 = .ok (.iload_n 2, 1) := by decide +kernel
theorem dX11_comes_132 : decode cX11_comes 132 = .ok (.iaload, 1) := by decide +kernel
theorem dX11_comes_133 : decode cX11_comes 133 = .ok (.invokestatic 380, 3) := by decide +kernel
theorem dX11_comes_136 : decode cX11_comes 136 = .ok (.iastore, 1) := by decide +kernel
theorem dX11_comes_137 : decode cX11_comes 137 = .ok (.iinc 3 1, 3) := by decide +kernel
theorem dX11_comes_140 : decode cX11_comes 140 = .ok (.goto (-124), 3) := by decide +kernel
theorem dX11_comes_143 : decode cX11_comes 143 = .ok (.aload_n 0, 1) := by decide +kernel
theorem dX11_comes_144 : decode cX11_comes 144 = .ok (.getfield 110, 3) := by decide +kernel
theorem dX11_comes_147 : decode cX11_comes 147 = .ok (.iconst 0, 1) := by decide +kernel
theorem dX11_comes_148 : decode cX11_comes 148 = .ok (.iaload, 1) := by decide +kernel
theorem dX11_comes_149 : decode cX11_comes 149 = .ok (.ireturn, 1) := by decide +kernel
theorem dX11_fault_0 : decode cX11_fault 0 = .ok (.iload_n 1, 1) := by decide +kernel
theorem dX11_fault_1 : decode cX11_fault 1 = .ok (.ifCond .ne 10, 3) := by decide +kernel
theorem dX11_fault_4 : decode cX11_fault 4 = .ok (.aload_n 0, 1) := by decide +kernel
theorem dX11_fault_5 : decode cX11_fault 5 = .ok (.getfield 158, 3) := by decide +kernel
theorem dX11_fault_8 : decode cX11_fault 8 = .ok (.goto 16, 3) := by decide +kernel
theorem dX11_fault_11 : decode cX11_fault 11 = .ok (.iload_n 1, 1) := by decide +kernel
theorem dX11_fault_12 : decode cX11_fault 12 = .ok (.iconst 1, 1) := by decide +kernel
theorem dX11_fault_13 : decode cX11_fault 13 = .ok (.if_icmp .ne 10, 3) := by decide +kernel
theorem dX11_fault_16 : decode cX11_fault 16 = .ok (.aload_n 0, 1) := by decide +kernel
theorem dX11_fault_17 : decode cX11_fault 17 = .ok (.getfield 16, 3) := by decide +kernel
theorem dX11_fault_20 : decode cX11_fault 20 = .ok (.goto 4, 3) := by decide +kernel
theorem dX11_fault_23 : decode cX11_fault 23 = .ok (.iconst (-1), 1) := by decide +kernel
theorem dX11_fault_24 : decode cX11_fault 24 = .ok (.ireturn, 1) := by decide +kernel
theorem dX11_isIn_0 : decode cX11_isIn 0 = .ok (.iload_n 0, 1) := by decide +kernel
theorem dX11_isIn_1 : decode cX11_isIn 1 = .ok (.iload_n 1, 1) := by decide +kernel
theorem dX11_isIn_2 : decode cX11_isIn 2 = .ok (.if_icmp .lt 12, 3) := by decide +kernel
theorem dX11_isIn_5 : decode cX11_isIn 5 = .ok (.iload_n 0, 1) := by decide +kernel
theorem dX11_isIn_6 : decode cX11_isIn 6 = .ok (.iload_n 2, 1) := by decide +kernel
theorem dX11_isIn_7 : decode cX11_isIn 7 = .ok (.if_icmp .gt 7, 3) := by decide +kernel
theorem dX11_isIn_10 : decode cX11_isIn 10 = .ok (.iconst 1, 1) := by decide +kernel
theorem dX11_isIn_11 : decode cX11_isIn 11 = .ok (.goto 4, 3) := by decide +kernel
theorem dX11_isIn_14 : decode cX11_isIn 14 = .ok (.iconst 0, 1) := by decide +kernel
theorem dX11_isIn_15 : decode cX11_isIn 15 = .ok (.ireturn, 1) := by decide +kernel
theorem dX11_has_0 : decode cX11_has 0 = .ok (.iload_n 0, 1) := by decide +kernel
theorem dX11_has_1 : decode cX11_has 1 = .ok (.iload_n 1, 1) := by decide +kernel
theorem dX11_has_2 : decode cX11_has 2 = .ok (.ishr, 1) := by decide +kernel
theorem dX11_has_3 : decode cX11_has 3 = .ok (.iconst 1, 1) := by decide +kernel
theorem dX11_has_4 : decode cX11_has 4 = .ok (.iand, 1) := by decide +kernel
theorem dX11_has_5 : decode cX11_has 5 = .ok (.iconst 1, 1) := by decide +kernel
theorem dX11_has_6 : decode cX11_has 6 = .ok (.if_icmp .ne 7, 3) := by decide +kernel
theorem dX11_has_9 : decode cX11_has 9 = .ok (.iconst 1, 1) := by decide +kernel
theorem dX11_has_10 : decode cX11_has 10 = .ok (.goto 4, 3) := by decide +kernel
theorem dX11_has_13 : decode cX11_has 13 = .ok (.iconst 0, 1) := by decide +kernel
theorem dX11_has_14 : decode cX11_has 14 = .ok (.ireturn, 1) := by decide +kernel
theorem dX11_bitsOf_0 : decode cX11_bitsOf 0 = .ok (.iconst 0, 1) := by decide +kernel
theorem dX11_bitsOf_1 : decode cX11_bitsOf 1 = .ok (.istore_n 1, 1) := by decide +kernel
theorem dX11_bitsOf_2 : decode cX11_bitsOf 2 = .ok (.iload_n 0, 1) := by decide +kernel
theorem dX11_bitsOf_3 : decode cX11_bitsOf 3 = .ok (.istore_n 2, 1) := by decide +kernel
theorem dX11_bitsOf_4 : decode cX11_bitsOf 4 = .ok (.iload_n 2, 1) := by decide +kernel
theorem dX11_bitsOf_5 : decode cX11_bitsOf 5 = .ok (.ifCond .eq 15, 3) := by decide +kernel
theorem dX11_bitsOf_8 : decode cX11_bitsOf 8 = .ok (.iinc 1 1, 3) := by decide +kernel
theorem dX11_bitsOf_11 : decode cX11_bitsOf 11 = .ok (.iload_n 2, 1) := by decide +kernel
theorem dX11_bitsOf_12 : decode cX11_bitsOf 12 = .ok (.iload_n 2, 1) := by decide +kernel
theorem dX11_bitsOf_13 : decode cX11_bitsOf 13 = .ok (.iconst 1, 1) := by decide +kernel
theorem dX11_bitsOf_14 : decode cX11_bitsOf 14 = .ok (.isub, 1) := by decide +kernel
theorem dX11_bitsOf_15 : decode cX11_bitsOf 15 = .ok (.iand, 1) := by decide +kernel
theorem dX11_bitsOf_16 : decode cX11_bitsOf 16 = .ok (.istore_n 2, 1) := by decide +kernel
theorem dX11_bitsOf_17 : decode cX11_bitsOf 17 = .ok (.goto (-13), 3) := by decide +kernel
theorem dX11_bitsOf_20 : decode cX11_bitsOf 20 = .ok (.iload_n 1, 1) := by decide +kernel
theorem dX11_bitsOf_21 : decode cX11_bitsOf 21 = .ok (.ireturn, 1) := by decide +kernel
theorem dX11_divisor_0 : decode cX11_divisor 0 = .ok (.iload_n 0, 1) := by decide +kernel
theorem dX11_divisor_1 : decode cX11_divisor 1 = .ok (.istore_n 2, 1) := by decide +kernel
theorem dX11_divisor_2 : decode cX11_divisor 2 = .ok (.iload_n 1, 1) := by decide +kernel
theorem dX11_divisor_3 : decode cX11_divisor 3 = .ok (.istore_n 3, 1) := by decide +kernel
theorem dX11_divisor_4 : decode cX11_divisor 4 = .ok (.iload_n 3, 1) := by decide +kernel
theorem dX11_divisor_5 : decode cX11_divisor 5 = .ok (.ifCond .le 16, 3) := by decide +kernel
theorem dX11_divisor_8 : decode cX11_divisor 8 = .ok (.iload_n 2, 1) := by decide +kernel
theorem dX11_divisor_9 : decode cX11_divisor 9 = .ok (.iload_n 3, 1) := by decide +kernel
theorem dX11_divisor_10 : decode cX11_divisor 10 = .ok (.irem, 1) := by decide +kernel
theorem dX11_divisor_11 : decode cX11_divisor 11 = .ok (.istore 4, 2) := by decide +kernel
theorem dX11_divisor_13 : decode cX11_divisor 13 = .ok (.iload_n 3, 1) := by decide +kernel
theorem dX11_divisor_14 : decode cX11_divisor 14 = .ok (.istore_n 2, 1) := by decide +kernel
theorem dX11_divisor_15 : decode cX11_divisor 15 = .ok (.iload 4, 2) := by decide +kernel
theorem dX11_divisor_17 : decode cX11_divisor 17 = .ok (.istore_n 3, 1) := by decide +kernel
theorem dX11_divisor_18 : decode cX11_divisor 18 = .ok (.goto (-14), 3) := by decide +kernel
theorem dX11_divisor_21 : decode cX11_divisor 21 = .ok (.iload_n 2, 1) := by decide +kernel
theorem dX11_divisor_22 : decode cX11_divisor 22 = .ok (.ireturn, 1) := by decide +kernel
theorem dX11_isMap_0 : decode cX11_isMap 0 = .ok (.iload_n 1, 1) := by decide +kernel
theorem dX11_isMap_1 : decode cX11_isMap 1 = .ok (.iconst 0, 1) := by decide +kernel
theorem dX11_isMap_2 : decode cX11_isMap 2 = .ok (.aload_n 0, 1) := by decide +kernel
theorem dX11_isMap_3 : decode cX11_isMap 3 = .ok (.invokevirtual 384, 3) := by decide +kernel
theorem dX11_isMap_6 : decode cX11_isMap 6 = .ok (.iconst 1, 1) := by decide +kernel
theorem dX11_isMap_7 : decode cX11_isMap 7 = .ok (.isub, 1) := by decide +kernel
theorem dX11_isMap_8 : decode cX11_isMap 8 = .ok (.invokestatic 387, 3) := by decide +kernel
theorem dX11_isMap_11 : decode cX11_isMap 11 = .ok (.ireturn, 1) := by decide +kernel
theorem dX11_isFood_0 : decode cX11_isFood 0 = .ok (.iload_n 1, 1) := by decide +kernel
theorem dX11_isFood_1 : decode cX11_isFood 1 = .ok (.iconst 0, 1) := by decide +kernel
theorem dX11_isFood_2 : decode cX11_isFood 2 = .ok (.aload_n 0, 1) := by decide +kernel
theorem dX11_isFood_3 : decode cX11_isFood 3 = .ok (.getfield 20, 3) := by decide +kernel
theorem dX11_isFood_6 : decode cX11_isFood 6 = .ok (.aload_n 0, 1) := by decide +kernel
theorem dX11_isFood_7 : decode cX11_isFood 7 = .ok (.getfield 273, 3) := by decide +kernel
theorem dX11_isFood_10 : decode cX11_isFood 10 = .ok (.iaload, 1) := by decide +kernel
theorem dX11_isFood_11 : decode cX11_isFood 11 = .ok (.iconst 1, 1) := by decide +kernel
theorem dX11_isFood_12 : decode cX11_isFood 12 = .ok (.isub, 1) := by decide +kernel
theorem dX11_isFood_13 : decode cX11_isFood 13 = .ok (.invokestatic 387, 3) := by decide +kernel
theorem dX11_isFood_16 : decode cX11_isFood 16 = .ok (.ireturn, 1) := by decide +kernel
theorem dX11_isPlace_0 : decode cX11_isPlace 0 = .ok (.iload_n 1, 1) := by decide +kernel
theorem dX11_isPlace_1 : decode cX11_isPlace 1 = .ok (.iconst 0, 1) := by decide +kernel
theorem dX11_isPlace_2 : decode cX11_isPlace 2 = .ok (.aload_n 0, 1) := by decide +kernel
theorem dX11_isPlace_3 : decode cX11_isPlace 3 = .ok (.getfield 27, 3) := by decide +kernel
theorem dX11_isPlace_6 : decode cX11_isPlace 6 = .ok (.aload_n 0, 1) := by decide +kernel
theorem dX11_isPlace_7 : decode cX11_isPlace 7 = .ok (.getfield 273, 3) := by decide +kernel
theorem dX11_isPlace_10 : decode cX11_isPlace 10 = .ok (.iaload, 1) := by decide +kernel
theorem dX11_isPlace_11 : decode cX11_isPlace 11 = .ok (.iconst 1, 1) := by decide +kernel
theorem dX11_isPlace_12 : decode cX11_isPlace 12 = .ok (.isub, 1) := by decide +kernel
theorem dX11_isPlace_13 : decode cX11_isPlace 13 = .ok (.invokestatic 387, 3) := by decide +kernel
theorem dX11_isPlace_16 : decode cX11_isPlace 16 = .ok (.ireturn, 1) := by decide +kernel
theorem dX11_isOn_0 : decode cX11_isOn 0 = .ok (.aload_n 0, 1) := by decide +kernel
theorem dX11_isOn_1 : decode cX11_isOn 1 = .ok (.getfield 63, 3) := by decide +kernel
theorem dX11_isOn_4 : decode cX11_isOn 4 = .ok (.bipush 8, 2) := by decide +kernel
theorem dX11_isOn_6 : decode cX11_isOn 6 = .ok (.aload_n 0, 1) := by decide +kernel
theorem dX11_isOn_7 : decode cX11_isOn 7 = .ok (.getfield 273, 3) := by decide +kernel
theorem dX11_isOn_10 : decode cX11_isOn 10 = .ok (.imul, 1) := by decide +kernel
theorem dX11_isOn_11 : decode cX11_isOn 11 = .ok (.iload_n 1, 1) := by decide +kernel
theorem dX11_isOn_12 : decode cX11_isOn 12 = .ok (.iadd, 1) := by decide +kernel
theorem dX11_isOn_13 : decode cX11_isOn 13 = .ok (.iaload, 1) := by decide +kernel
theorem dX11_isOn_14 : decode cX11_isOn 14 = .ok (.iload_n 2, 1) := by decide +kernel
theorem dX11_isOn_15 : decode cX11_isOn 15 = .ok (.invokestatic 391, 3) := by decide +kernel
theorem dX11_isOn_18 : decode cX11_isOn 18 = .ok (.ireturn, 1) := by decide +kernel
theorem dX11_likedBy_0 : decode cX11_likedBy 0 = .ok (.aload_n 0, 1) := by decide +kernel
theorem dX11_likedBy_1 : decode cX11_likedBy 1 = .ok (.getfield 66, 3) := by decide +kernel
theorem dX11_likedBy_4 : decode cX11_likedBy 4 = .ok (.iconst 3, 1) := by decide +kernel
theorem dX11_likedBy_5 : decode cX11_likedBy 5 = .ok (.iconst 4, 1) := by decide +kernel
theorem dX11_likedBy_6 : decode cX11_likedBy 6 = .ok (.aload_n 0, 1) := by decide +kernel
theorem dX11_likedBy_7 : decode cX11_likedBy 7 = .ok (.getfield 273, 3) := by decide +kernel
theorem dX11_likedBy_10 : decode cX11_likedBy 10 = .ok (.imul, 1) := by decide +kernel
theorem dX11_likedBy_11 : decode cX11_likedBy 11 = .ok (.iload_n 1, 1) := by decide +kernel
theorem dX11_likedBy_12 : decode cX11_likedBy 12 = .ok (.iadd, 1) := by decide +kernel
theorem dX11_likedBy_13 : decode cX11_likedBy 13 = .ok (.imul, 1) := by decide +kernel
theorem dX11_likedBy_14 : decode cX11_likedBy 14 = .ok (.iload_n 2, 1) := by decide +kernel
theorem dX11_likedBy_15 : decode cX11_likedBy 15 = .ok (.iadd, 1) := by decide +kernel
theorem dX11_likedBy_16 : decode cX11_likedBy 16 = .ok (.iaload, 1) := by decide +kernel
theorem dX11_likedBy_17 : decode cX11_likedBy 17 = .ok (.ireturn, 1) := by decide +kernel
theorem dX11_doesBite_0 : decode cX11_doesBite 0 = .ok (.aload_n 0, 1) := by decide +kernel
theorem dX11_doesBite_1 : decode cX11_doesBite 1 = .ok (.getfield 54, 3) := by decide +kernel
theorem dX11_doesBite_4 : decode cX11_doesBite 4 = .ok (.iconst 4, 1) := by decide +kernel
theorem dX11_doesBite_5 : decode cX11_doesBite 5 = .ok (.aload_n 0, 1) := by decide +kernel
theorem dX11_doesBite_6 : decode cX11_doesBite 6 = .ok (.getfield 273, 3) := by decide +kernel
theorem dX11_doesBite_9 : decode cX11_doesBite 9 = .ok (.imul, 1) := by decide +kernel
theorem dX11_doesBite_10 : decode cX11_doesBite 10 = .ok (.iload_n 1, 1) := by decide +kernel
theorem dX11_doesBite_11 : decode cX11_doesBite 11 = .ok (.iadd, 1) := by decide +kernel
theorem dX11_doesBite_12 : decode cX11_doesBite 12 = .ok (.iaload, 1) := by decide +kernel
theorem dX11_doesBite_13 : decode cX11_doesBite 13 = .ok (.iload_n 2, 1) := by decide +kernel
theorem dX11_doesBite_14 : decode cX11_doesBite 14 = .ok (.invokestatic 391, 3) := by decide +kernel
theorem dX11_doesBite_17 : decode cX11_doesBite 17 = .ok (.ifCond .eq 56, 3) := by decide +kernel
theorem dX11_doesBite_20 : decode cX11_doesBite 20 = .ok (.aload_n 0, 1) := by decide +kernel
theorem dX11_doesBite_21 : decode cX11_doesBite 21 = .ok (.getfield 113, 3) := by decide +kernel
theorem dX11_doesBite_24 : decode cX11_doesBite 24 = .ok (.bipush 35, 2) := by decide +kernel
theorem dX11_doesBite_26 : decode cX11_doesBite 26 = .ok (.iload_n 1, 1) := by decide +kernel
theorem dX11_doesBite_27 : decode cX11_doesBite 27 = .ok (.iadd, 1) := by decide +kernel
theorem dX11_doesBite_28 : decode cX11_doesBite 28 = .ok (.iaload, 1) := by decide +kernel
theorem dX11_doesBite_29 : decode cX11_doesBite 29 = .ok (.aload_n 0, 1) := by decide +kernel
theorem dX11_doesBite_30 : decode cX11_doesBite 30 = .ok (.getfield 113, 3) := by decide +kernel
theorem dX11_doesBite_33 : decode cX11_doesBite 33 = .ok (.bipush 35, 2) := by decide +kernel
theorem dX11_doesBite_35 : decode cX11_doesBite 35 = .ok (.iload_n 2, 1) := by decide +kernel
theorem dX11_doesBite_36 : decode cX11_doesBite 36 = .ok (.iadd, 1) := by decide +kernel
theorem dX11_doesBite_37 : decode cX11_doesBite 37 = .ok (.iaload, 1) := by decide +kernel
theorem dX11_doesBite_38 : decode cX11_doesBite 38 = .ok (.if_icmp .ne 35, 3) := by decide +kernel
theorem dX11_doesBite_41 : decode cX11_doesBite 41 = .ok (.aload_n 0, 1) := by decide +kernel
theorem dX11_doesBite_42 : decode cX11_doesBite 42 = .ok (.getfield 113, 3) := by decide +kernel
theorem dX11_doesBite_45 : decode cX11_doesBite 45 = .ok (.bipush 39, 2) := by decide +kernel
theorem dX11_doesBite_47 : decode cX11_doesBite 47 = .ok (.iaload, 1) := by decide +kernel
theorem dX11_doesBite_48 : decode cX11_doesBite 48 = .ok (.iload_n 1, 1) := by decide +kernel
theorem dX11_doesBite_49 : decode cX11_doesBite 49 = .ok (.invokestatic 391, 3) := by decide +kernel
theorem dX11_doesBite_52 : decode cX11_doesBite 52 = .ok (.ifCond .ne 21, 3) := by decide +kernel
theorem dX11_doesBite_55 : decode cX11_doesBite 55 = .ok (.aload_n 0, 1) := by decide +kernel
theorem dX11_doesBite_56 : decode cX11_doesBite 56 = .ok (.getfield 113, 3) := by decide +kernel
theorem dX11_doesBite_59 : decode cX11_doesBite 59 = .ok (.bipush 39, 2) := by decide +kernel
theorem dX11_doesBite_61 : decode cX11_doesBite 61 = .ok (.iaload, 1) := by decide +kernel
theorem dX11_doesBite_62 : decode cX11_doesBite 62 = .ok (.iload_n 2, 1) := by decide +kernel
theorem dX11_doesBite_63 : decode cX11_doesBite 63 = .ok (.invokestatic 391, 3) := by decide +kernel
theorem dX11_doesBite_66 : decode cX11_doesBite 66 = .ok (.ifCond .ne 7, 3) := by decide +kernel
theorem dX11_doesBite_69 : decode cX11_doesBite 69 = .ok (.iconst 1, 1) := by decide +kernel
theorem dX11_doesBite_70 : decode cX11_doesBite 70 = .ok (.goto 4, 3) := by decide +kernel
theorem dX11_doesBite_73 : decode cX11_doesBite 73 = .ok (.iconst 0, 1) := by decide +kernel
theorem dX11_doesBite_74 : decode cX11_doesBite 74 = .ok (.ireturn, 1) := by decide +kernel
theorem dX11_hungerOf_0 : decode cX11_hungerOf 0 = .ok (.aload_n 0, 1) := by decide +kernel
theorem dX11_hungerOf_1 : decode cX11_hungerOf 1 = .ok (.getfield 113, 3) := by decide +kernel
theorem dX11_hungerOf_4 : decode cX11_hungerOf 4 = .ok (.bipush 39, 2) := by decide +kernel
theorem dX11_hungerOf_6 : decode cX11_hungerOf 6 = .ok (.iaload, 1) := by decide +kernel
theorem dX11_hungerOf_7 : decode cX11_hungerOf 7 = .ok (.iload_n 1, 1) := by decide +kernel
theorem dX11_hungerOf_8 : decode cX11_hungerOf 8 = .ok (.invokestatic 391, 3) := by decide +kernel
theorem dX11_hungerOf_11 : decode cX11_hungerOf 11 = .ok (.ifCond .eq 5, 3) := by decide +kernel
theorem dX11_hungerOf_14 : decode cX11_hungerOf 14 = .ok (.iconst 0, 1) := by decide +kernel
theorem dX11_hungerOf_15 : decode cX11_hungerOf 15 = .ok (.ireturn, 1) := by decide +kernel
theorem dX11_hungerOf_16 : decode cX11_hungerOf 16 = .ok (.aload_n 0, 1) := by decide +kernel
theorem dX11_hungerOf_17 : decode cX11_hungerOf 17 = .ok (.aload_n 0, 1) := by decide +kernel
theorem dX11_hungerOf_18 : decode cX11_hungerOf 18 = .ok (.getfield 45, 3) := by decide +kernel
theorem dX11_hungerOf_21 : decode cX11_hungerOf 21 = .ok (.iconst 4, 1) := by decide +kernel
theorem dX11_hungerOf_22 : decode cX11_hungerOf 22 = .ok (.aload_n 0, 1) := by decide +kernel
theorem dX11_hungerOf_23 : decode cX11_hungerOf 23 = .ok (.getfield 273, 3) := by decide +kernel
theorem dX11_hungerOf_26 : decode cX11_hungerOf 26 = .ok (.imul, 1) := by decide +kernel
theorem dX11_hungerOf_27 : decode cX11_hungerOf 27 = .ok (.iload_n 1, 1) := by decide +kernel
theorem dX11_hungerOf_28 : decode cX11_hungerOf 28 = .ok (.iadd, 1) := by decide +kernel
theorem dX11_hungerOf_29 : decode cX11_hungerOf 29 = .ok (.iaload, 1) := by decide +kernel
theorem dX11_hungerOf_30 : decode cX11_hungerOf 30 = .ok (.putfield 362, 3) := by decide +kernel
theorem dX11_hungerOf_33 : decode cX11_hungerOf 33 = .ok (.aload_n 0, 1) := by decide +kernel
theorem dX11_hungerOf_34 : decode cX11_hungerOf 34 = .ok (.aload_n 0, 1) := by decide +kernel
theorem dX11_hungerOf_35 : decode cX11_hungerOf 35 = .ok (.getfield 113, 3) := by decide +kernel
theorem dX11_hungerOf_38 : decode cX11_hungerOf 38 = .ok (.bipush 31, 2) := by decide +kernel
theorem dX11_hungerOf_40 : decode cX11_hungerOf 40 = .ok (.iload_n 1, 1) := by decide +kernel
theorem dX11_hungerOf_41 : decode cX11_hungerOf 41 = .ok (.iadd, 1) := by decide +kernel
theorem dX11_hungerOf_42 : decode cX11_hungerOf 42 = .ok (.iaload, 1) := by decide +kernel
theorem dX11_hungerOf_43 : decode cX11_hungerOf 43 = .ok (.putfield 365, 3) := by decide +kernel
theorem dX11_hungerOf_46 : decode cX11_hungerOf 46 = .ok (.aload_n 0, 1) := by decide +kernel
theorem dX11_hungerOf_47 : decode cX11_hungerOf 47 = .ok (.iconst 0, 1) := by decide +kernel
theorem dX11_hungerOf_48 : decode cX11_hungerOf 48 = .ok (.putfield 368, 3) := by decide +kernel
theorem dX11_hungerOf_51 : decode cX11_hungerOf 51 = .ok (.aload_n 0, 1) := by decide +kernel
theorem dX11_hungerOf_52 : decode cX11_hungerOf 52 = .ok (.iconst 0, 1) := by decide +kernel
theorem dX11_hungerOf_53 : decode cX11_hungerOf 53 = .ok (.putfield 371, 3) := by decide +kernel
theorem dX11_hungerOf_56 : decode cX11_hungerOf 56 = .ok (.aload_n 0, 1) := by decide +kernel
theorem dX11_hungerOf_57 : decode cX11_hungerOf 57 = .ok (.iconst 0, 1) := by decide +kernel
theorem dX11_hungerOf_58 : decode cX11_hungerOf 58 = .ok (.putfield 374, 3) := by decide +kernel
theorem dX11_hungerOf_61 : decode cX11_hungerOf 61 = .ok (.aload_n 0, 1) := by decide +kernel
theorem dX11_hungerOf_62 : decode cX11_hungerOf 62 = .ok (.iload_n 1, 1) := by decide +kernel
theorem dX11_hungerOf_63 : decode cX11_hungerOf 63 = .ok (.invokevirtual 407, 3) := by decide +kernel
theorem dX11_hungerOf_66 : decode cX11_hungerOf 66 = .ok (.istore_n 2, 1) := by decide +kernel
theorem dX11_hungerOf_67 : decode cX11_hungerOf 67 = .ok (.iload_n 2, 1) := by decide +kernel
theorem dX11_hungerOf_68 : decode cX11_hungerOf 68 = .ok (.ifCond .ge 7, 3) := by decide +kernel
theorem dX11_hungerOf_71 : decode cX11_hungerOf 71 = .ok (.iconst 0, 1) := by decide +kernel
theorem dX11_hungerOf_72 : decode cX11_hungerOf 72 = .ok (.goto 15, 3) := by decide +kernel
theorem dX11_hungerOf_75 : decode cX11_hungerOf 75 = .ok (.iload_n 2, 1) := by decide +kernel
theorem dX11_hungerOf_76 : decode cX11_hungerOf 76 = .ok (.bipush 99, 2) := by decide +kernel
theorem dX11_hungerOf_78 : decode cX11_hungerOf 78 = .ok (.if_icmp .le 8, 3) := by decide +kernel
theorem dX11_hungerOf_81 : decode cX11_hungerOf 81 = .ok (.bipush 99, 2) := by decide +kernel
theorem dX11_hungerOf_83 : decode cX11_hungerOf 83 = .ok (.goto 4, 3) := by decide +kernel
theorem dX11_hungerOf_86 : decode cX11_hungerOf 86 = .ok (.iload_n 2, 1) := by decide +kernel
theorem dX11_hungerOf_87 : decode cX11_hungerOf 87 = .ok (.istore_n 2, 1) := by decide +kernel
theorem dX11_hungerOf_88 : decode cX11_hungerOf 88 = .ok (.iconst 0, 1) := by decide +kernel
theorem dX11_hungerOf_89 : decode cX11_hungerOf 89 = .ok (.istore_n 3, 1) := by decide +kernel
theorem dX11_hungerOf_90 : decode cX11_hungerOf 90 = .ok (.iload_n 3, 1) := by decide +kernel
theorem dX11_hungerOf_91 : decode cX11_hungerOf 91 = .ok (.aload_n 0, 1) := by decide +kernel
theorem dX11_hungerOf_92 : decode cX11_hungerOf 92 = .ok (.invokevirtual 384, 3) := by decide +kernel
theorem dX11_hungerOf_95 : decode cX11_hungerOf 95 = .ok (.if_icmp .ge 26, 3) := by decide +kernel
theorem dX11_hungerOf_98 : decode cX11_hungerOf 98 = .ok (.iload_n 2, 1) := by decide +kernel
theorem dX11_hungerOf_99 : decode cX11_hungerOf 99 = .ok (.aload_n 0, 1) := by decide +kernel
theorem dX11_hungerOf_100 : decode cX11_hungerOf 100 = .ok (.iload_n 1, 1) := by decide +kernel
theorem dX11_hungerOf_101 : decode cX11_hungerOf 101 = .ok (.iload_n 3, 1) := by decide +kernel
theorem dX11_hungerOf_102 : decode cX11_hungerOf 102 = .ok (.invokevirtual 410, 3) := by decide +kernel
theorem dX11_hungerOf_105 : decode cX11_hungerOf 105 = .ok (.ifCond .eq 7, 3) := by decide +kernel
theorem dX11_hungerOf_108 : decode cX11_hungerOf 108 = .ok (.iconst 2, 1) := by decide +kernel
theorem dX11_hungerOf_109 : decode cX11_hungerOf 109 = .ok (.goto 4, 3) := by decide +kernel
theorem dX11_hungerOf_112 : decode cX11_hungerOf 112 = .ok (.iconst 0, 1) := by decide +kernel
theorem dX11_hungerOf_113 : decode cX11_hungerOf 113 = .ok (.iadd, 1) := by decide +kernel
theorem dX11_hungerOf_114 : decode cX11_hungerOf 114 = .ok (.istore_n 2, 1) := by decide +kernel
theorem dX11_hungerOf_115 : decode cX11_hungerOf 115 = .ok (.iinc 3 1, 3) := by decide +kernel
theorem dX11_hungerOf_118 : decode cX11_hungerOf 118 = .ok (.goto (-28), 3) := by decide +kernel
theorem dX11_hungerOf_121 : decode cX11_hungerOf 121 = .ok (.iload_n 2, 1) := by decide +kernel
theorem dX11_hungerOf_122 : decode cX11_hungerOf 122 = .ok (.bipush 99, 2) := by decide +kernel
theorem dX11_hungerOf_124 : decode cX11_hungerOf 124 = .ok (.if_icmp .le 8, 3) := by decide +kernel
theorem dX11_hungerOf_127 : decode cX11_hungerOf 127 = .ok (.bipush 99, 2) := by decide +kernel
theorem dX11_hungerOf_129 : decode cX11_hungerOf 129 = .ok (.goto 4, 3) := by decide +kernel
theorem dX11_hungerOf_132 : decode cX11_hungerOf 132 = .ok (.iload_n 2, 1) := by decide +kernel
theorem dX11_hungerOf_133 : decode cX11_hungerOf 133 = .ok (.ireturn, 1) := by decide +kernel
set_option maxRecDepth 100000 in
theorem m_X11_two (l : Launch) (D : va_G) (cT : Nat → ClassId) (T : Nat → Option Nat) (q : Nat → Int) (hT : tokm T) (hq : qkm q) (y0 : Int32) (j0 : IV y0 (-2147483648) 2147483647) (y1 : Int32) (j1 : IV y1 (-2147483648) 2147483647) (y2 : Int32) (j2 : IV y2 (-2147483648) 2147483647) : th_Met l D cT T (km q) yX11_two cX11_two 3 (some .int) (rmk 0 0) [.int y0, .int y1, .int y2] (th_R T (some (.inl (-2147483648, 2147483647)))) [] := by
  refine th_start (by decide) (Nat.le_of_ble_eq_true rfl) ?_
  intro p e s m below meth c ls S hK hH hr hlocks hnm hl
  have hx := S.1
  have hb := S.2.1
  have hl : lv_has ls 3 [(0, .int y0), (1, .int y1), (2, .int y2)] := hl
  have J216_s0_0 : ∀ (H : Heap) (locs : List Loc) (ls : Array Slot), th_H D cT T (km q) H → va_S (th_A T []) s.heap H locs → lv_has ls 3 [] → W p l e (rmk 0 0) s m [.int y0, .int y1, .int y2].toArray below meth c H locs 0 0 (MQ below (th_Q D cT T (km q) (th_R T (some (.inl (-2147483648, 2147483647)))) []) [.int y0, .int y1, .int y2].toArray s 0 0 (th_A T [])) (F0 m 216 ls [.int 0]) := by
    intro H locs ls hH hS hl
    exact th_iret S hK hH hS hr hlocks (th_R.i (iv_top _)) dX11_two_216
  have J216_s0_1 : ∀ (H : Heap) (locs : List Loc) (ls : Array Slot), th_H D cT T (km q) H → va_S (th_A T []) s.heap H locs → lv_has ls 3 [] → W p l e (rmk 0 0) s m [.int y0, .int y1, .int y2].toArray below meth c H locs 0 0 (MQ below (th_Q D cT T (km q) (th_R T (some (.inl (-2147483648, 2147483647)))) []) [.int y0, .int y1, .int y2].toArray s 0 0 (th_A T [])) (F0 m 216 ls [.int 1]) := by
    intro H locs ls hH hS hl
    exact th_iret S hK hH hS hr hlocks (th_R.i (iv_top _)) dX11_two_216
  have J211 : ∀ (H : Heap) (locs : List Loc) (ls : Array Slot), th_H D cT T (km q) H → va_S (th_A T []) s.heap H locs → lv_has ls 3 [] → W p l e (rmk 0 0) s m [.int y0, .int y1, .int y2].toArray below meth c H locs 0 0 (MQ below (th_Q D cT T (km q) (th_R T (some (.inl (-2147483648, 2147483647)))) []) [.int y0, .int y1, .int y2].toArray s 0 0 (th_A T [])) (F0 m 211 ls []) := by
    intro H locs ls hH hS hl
    refine lv_iconst (v := 1) hx hb dX11_two_211 (by decide) ?_
    refine lv_goto (tgt := 216) hx hb dX11_two_212 (by decide) ?_
    exact J216_s0_1 H locs ls  hH hS (lv_sub hl [] rfl)
  have J202_s0_0 : ∀ (H : Heap) (locs : List Loc) (ls : Array Slot), th_H D cT T (km q) H → va_S (th_A T []) s.heap H locs → lv_has ls 3 [] → W p l e (rmk 0 0) s m [.int y0, .int y1, .int y2].toArray below meth c H locs 0 0 (MQ below (th_Q D cT T (km q) (th_R T (some (.inl (-2147483648, 2147483647)))) []) [.int y0, .int y1, .int y2].toArray s 0 0 (th_A T [])) (F0 m 202 ls [.int 0]) := by
    intro H locs ls hH hS hl
    exact th_iret S hK hH hS hr hlocks (th_R.i (iv_top _)) dX11_two_202
  have J202_s0_1 : ∀ (H : Heap) (locs : List Loc) (ls : Array Slot), th_H D cT T (km q) H → va_S (th_A T []) s.heap H locs → lv_has ls 3 [] → W p l e (rmk 0 0) s m [.int y0, .int y1, .int y2].toArray below meth c H locs 0 0 (MQ below (th_Q D cT T (km q) (th_R T (some (.inl (-2147483648, 2147483647)))) []) [.int y0, .int y1, .int y2].toArray s 0 0 (th_A T [])) (F0 m 202 ls [.int 1]) := by
    intro H locs ls hH hS hl
    exact th_iret S hK hH hS hr hlocks (th_R.i (iv_top _)) dX11_two_202
  have J201 : ∀ (H : Heap) (locs : List Loc) (ls : Array Slot), th_H D cT T (km q) H → va_S (th_A T []) s.heap H locs → lv_has ls 3 [] → W p l e (rmk 0 0) s m [.int y0, .int y1, .int y2].toArray below meth c H locs 0 0 (MQ below (th_Q D cT T (km q) (th_R T (some (.inl (-2147483648, 2147483647)))) []) [.int y0, .int y1, .int y2].toArray s 0 0 (th_A T [])) (F0 m 201 ls []) := by
    intro H locs ls hH hS hl
    refine lv_iconst (v := 0) hx hb dX11_two_201 (by decide) ?_
    exact J202_s0_0 H locs ls  hH hS (lv_sub hl [] rfl)
  have J188_s0_0 : ∀ (H : Heap) (locs : List Loc) (ls : Array Slot), th_H D cT T (km q) H → va_S (th_A T []) s.heap H locs → lv_has ls 3 [] → W p l e (rmk 0 0) s m [.int y0, .int y1, .int y2].toArray below meth c H locs 0 0 (MQ below (th_Q D cT T (km q) (th_R T (some (.inl (-2147483648, 2147483647)))) []) [.int y0, .int y1, .int y2].toArray s 0 0 (th_A T [])) (F0 m 188 ls [.int 0]) := by
    intro H locs ls hH hS hl
    exact th_iret S hK hH hS hr hlocks (th_R.i (iv_top _)) dX11_two_188
  have J188_s0_1 : ∀ (H : Heap) (locs : List Loc) (ls : Array Slot), th_H D cT T (km q) H → va_S (th_A T []) s.heap H locs → lv_has ls 3 [] → W p l e (rmk 0 0) s m [.int y0, .int y1, .int y2].toArray below meth c H locs 0 0 (MQ below (th_Q D cT T (km q) (th_R T (some (.inl (-2147483648, 2147483647)))) []) [.int y0, .int y1, .int y2].toArray s 0 0 (th_A T [])) (F0 m 188 ls [.int 1]) := by
    intro H locs ls hH hS hl
    exact th_iret S hK hH hS hr hlocks (th_R.i (iv_top _)) dX11_two_188
  have J177_s0_0 : ∀ (H : Heap) (locs : List Loc) (ls : Array Slot), th_H D cT T (km q) H → va_S (th_A T []) s.heap H locs → lv_has ls 3 [] → W p l e (rmk 0 0) s m [.int y0, .int y1, .int y2].toArray below meth c H locs 0 0 (MQ below (th_Q D cT T (km q) (th_R T (some (.inl (-2147483648, 2147483647)))) []) [.int y0, .int y1, .int y2].toArray s 0 0 (th_A T [])) (F0 m 177 ls [.int 0]) := by
    intro H locs ls hH hS hl
    exact th_iret S hK hH hS hr hlocks (th_R.i (iv_top _)) dX11_two_177
  have J177_s0_1 : ∀ (H : Heap) (locs : List Loc) (ls : Array Slot), th_H D cT T (km q) H → va_S (th_A T []) s.heap H locs → lv_has ls 3 [] → W p l e (rmk 0 0) s m [.int y0, .int y1, .int y2].toArray below meth c H locs 0 0 (MQ below (th_Q D cT T (km q) (th_R T (some (.inl (-2147483648, 2147483647)))) []) [.int y0, .int y1, .int y2].toArray s 0 0 (th_A T [])) (F0 m 177 ls [.int 1]) := by
    intro H locs ls hH hS hl
    exact th_iret S hK hH hS hr hlocks (th_R.i (iv_top _)) dX11_two_177
  have J166_s0_0 : ∀ (H : Heap) (locs : List Loc) (ls : Array Slot), th_H D cT T (km q) H → va_S (th_A T []) s.heap H locs → lv_has ls 3 [] → W p l e (rmk 0 0) s m [.int y0, .int y1, .int y2].toArray below meth c H locs 0 0 (MQ below (th_Q D cT T (km q) (th_R T (some (.inl (-2147483648, 2147483647)))) []) [.int y0, .int y1, .int y2].toArray s 0 0 (th_A T [])) (F0 m 166 ls [.int 0]) := by
    intro H locs ls hH hS hl
    exact th_iret S hK hH hS hr hlocks (th_R.i (iv_top _)) dX11_two_166
  have J166_s0_1 : ∀ (H : Heap) (locs : List Loc) (ls : Array Slot), th_H D cT T (km q) H → va_S (th_A T []) s.heap H locs → lv_has ls 3 [] → W p l e (rmk 0 0) s m [.int y0, .int y1, .int y2].toArray below meth c H locs 0 0 (MQ below (th_Q D cT T (km q) (th_R T (some (.inl (-2147483648, 2147483647)))) []) [.int y0, .int y1, .int y2].toArray s 0 0 (th_A T [])) (F0 m 166 ls [.int 1]) := by
    intro H locs ls hH hS hl
    exact th_iret S hK hH hS hr hlocks (th_R.i (iv_top _)) dX11_two_166
  have J155 : ∀ (H : Heap) (locs : List Loc) (ls : Array Slot) (w155_0 : Int32), IV w155_0 (-2147483648) 2147483647 → th_H D cT T (km q) H → va_S (th_A T []) s.heap H locs → lv_has ls 3 [] → W p l e (rmk 0 0) s m [.int y0, .int y1, .int y2].toArray below meth c H locs 0 0 (MQ below (th_Q D cT T (km q) (th_R T (some (.inl (-2147483648, 2147483647)))) []) [.int y0, .int y1, .int y2].toArray s 0 0 (th_A T [])) (F0 m 155 ls [.int w155_0]) := by
    intro H locs ls w155_0 iw155_0 hH hS hl
    exact th_iret S hK hH hS hr hlocks (th_R.i iw155_0) dX11_two_155
  have J155_s0_0 : ∀ (H : Heap) (locs : List Loc) (ls : Array Slot), th_H D cT T (km q) H → va_S (th_A T []) s.heap H locs → lv_has ls 3 [] → W p l e (rmk 0 0) s m [.int y0, .int y1, .int y2].toArray below meth c H locs 0 0 (MQ below (th_Q D cT T (km q) (th_R T (some (.inl (-2147483648, 2147483647)))) []) [.int y0, .int y1, .int y2].toArray s 0 0 (th_A T [])) (F0 m 155 ls [.int 0]) := by
    intro H locs ls hH hS hl
    exact th_iret S hK hH hS hr hlocks (th_R.i (iv_top _)) dX11_two_155
  have J143 : ∀ (H : Heap) (locs : List Loc) (ls : Array Slot) (w143_0 : Int32), IV w143_0 (-2147483648) 2147483647 → th_H D cT T (km q) H → va_S (th_A T []) s.heap H locs → lv_has ls 3 [] → W p l e (rmk 0 0) s m [.int y0, .int y1, .int y2].toArray below meth c H locs 0 0 (MQ below (th_Q D cT T (km q) (th_R T (some (.inl (-2147483648, 2147483647)))) []) [.int y0, .int y1, .int y2].toArray s 0 0 (th_A T [])) (F0 m 143 ls [.int w143_0]) := by
    intro H locs ls w143_0 iw143_0 hH hS hl
    exact th_iret S hK hH hS hr hlocks (th_R.i iw143_0) dX11_two_143
  have J143_s0_0 : ∀ (H : Heap) (locs : List Loc) (ls : Array Slot), th_H D cT T (km q) H → va_S (th_A T []) s.heap H locs → lv_has ls 3 [] → W p l e (rmk 0 0) s m [.int y0, .int y1, .int y2].toArray below meth c H locs 0 0 (MQ below (th_Q D cT T (km q) (th_R T (some (.inl (-2147483648, 2147483647)))) []) [.int y0, .int y1, .int y2].toArray s 0 0 (th_A T [])) (F0 m 143 ls [.int 0]) := by
    intro H locs ls hH hS hl
    exact th_iret S hK hH hS hr hlocks (th_R.i (iv_top _)) dX11_two_143
  have J0 : ∀ (H : Heap) (locs : List Loc) (ls : Array Slot), th_H D cT T (km q) H → va_S (th_A T []) s.heap H locs → lv_has ls 3 [(0, .int y0), (1, .int y1), (2, .int y2)] → W p l e (rmk 0 0) s m [.int y0, .int y1, .int y2].toArray below meth c H locs 0 0 (MQ below (th_Q D cT T (km q) (th_R T (some (.inl (-2147483648, 2147483647)))) []) [.int y0, .int y1, .int y2].toArray s 0 0 (th_A T [])) (F0 m 0 ls []) := by
    intro H locs ls hH hS hl
    refine lv_iload_n hx hb dX11_two_0 rfl (lv_at hl 0 rfl) ?_
    by_cases c1 : y0.toInt < 37 ∨ 62 < y0.toInt
    · refine lv_tableOut (tgt := 203) hx hb dX11_two_1 c1 (by decide) ?_
      refine lv_iload_n hx hb dX11_two_203 rfl (lv_at hl 1 rfl) ?_
      refine lv_if_ne (tgt := 211) hx hb dX11_two_204 (by decide) (fun c2 => ?_) (fun c2 => ?_)
      · skip
        have rlc2 : y1.toInt ≠ (0 : Int) := iv_ne c2
        exact J211 H locs ls  hH hS (lv_sub hl [] rfl)
      · skip
        have rlc2 : y1.toInt = (0 : Int) := congrArg Int32.toInt c2
        have ir3 : IV y1 0 0 := iv_eL c2 (iv_c (by decide) : IV 0 0 0)
        have ir3a := ir3.1; have ir3b := ir3.2
        refine lv_iload_n hx hb dX11_two_207 rfl (lv_at hl 2 rfl) ?_
        refine lv_if_eq (tgt := 215) hx hb dX11_two_208 (by decide) (fun c4 => ?_) (fun c4 => ?_)
        · skip
          have rlc4 : y2.toInt = (0 : Int) := congrArg Int32.toInt c4
          have ir5 : IV y2 0 0 := iv_eL c4 (iv_c (by decide) : IV 0 0 0)
          have ir5a := ir5.1; have ir5b := ir5.2
          refine lv_iconst (v := 0) hx hb dX11_two_215 (by decide) ?_
          exact J216_s0_0 H locs ls  hH hS (lv_sub hl [] rfl)
        · skip
          have rlc4 : y2.toInt ≠ (0 : Int) := iv_ne c4
          exact J211 H locs ls  hH hS (lv_sub hl [] rfl)
    · rcases (show y0.toInt = 37 ∨ y0.toInt = 38 ∨ y0.toInt = 39 ∨ y0.toInt = 40 ∨ y0.toInt = 41 ∨ y0.toInt = 42 ∨ y0.toInt = 43 ∨ y0.toInt = 44 ∨ y0.toInt = 45 ∨ y0.toInt = 46 ∨ y0.toInt = 47 ∨ y0.toInt = 48 ∨ y0.toInt = 49 ∨ y0.toInt = 50 ∨ y0.toInt = 51 ∨ y0.toInt = 52 ∨ y0.toInt = 53 ∨ y0.toInt = 54 ∨ y0.toInt = 55 ∨ y0.toInt = 56 ∨ y0.toInt = 57 ∨ y0.toInt = 58 ∨ y0.toInt = 59 ∨ y0.toInt = 60 ∨ y0.toInt = 61 ∨ y0.toInt = 62 by omega) with c1b | c1b | c1b | c1b | c1b | c1b | c1b | c1b | c1b | c1b | c1b | c1b | c1b | c1b | c1b | c1b | c1b | c1b | c1b | c1b | c1b | c1b | c1b | c1b | c1b | c1b
      · refine lv_tableIn (tgt := 144) (off := 143) hx hb dX11_two_1 (by omega) (by omega) (by rw [c1b]; rfl) (by decide) ?_
        refine lv_iload_n hx hb dX11_two_144 rfl (lv_at hl 2 rfl) ?_
        refine lv_if_ne (tgt := 152) hx hb dX11_two_145 (by decide) (fun c6 => ?_) (fun c6 => ?_)
        · skip
          have rlc6 : y2.toInt ≠ (0 : Int) := iv_ne c6
          refine lv_iload_n hx hb dX11_two_152 rfl (lv_at hl 1 rfl) ?_
          refine lv_iload_n hx hb dX11_two_153 rfl (lv_at hl 2 rfl) ?_
          refine lv_irem hx hb dX11_two_154 c6 ?_
          refine lv_topi (fun x7 ex7 => ?_)
          have ix7 := iv_top x7
          exact J155 H locs ls x7 ix7 hH hS (lv_sub hl [] rfl)
        · skip
          have rlc6 : y2.toInt = (0 : Int) := congrArg Int32.toInt c6
          have ir8 : IV y2 0 0 := iv_eL c6 (iv_c (by decide) : IV 0 0 0)
          have ir8a := ir8.1; have ir8b := ir8.2
          refine lv_iconst (v := 0) hx hb dX11_two_148 (by decide) ?_
          refine lv_goto (tgt := 155) hx hb dX11_two_149 (by decide) ?_
          exact J155_s0_0 H locs ls  hH hS (lv_sub hl [] rfl)
      · refine lv_tableIn (tgt := 189) (off := 188) hx hb dX11_two_1 (by omega) (by omega) (by rw [c1b]; rfl) (by decide) ?_
        refine lv_iload_n hx hb dX11_two_189 rfl (lv_at hl 1 rfl) ?_
        refine lv_if_eq (tgt := 201) hx hb dX11_two_190 (by decide) (fun c9 => ?_) (fun c9 => ?_)
        · skip
          have rlc9 : y1.toInt = (0 : Int) := congrArg Int32.toInt c9
          have ir10 : IV y1 0 0 := iv_eL c9 (iv_c (by decide) : IV 0 0 0)
          have ir10a := ir10.1; have ir10b := ir10.2
          exact J201 H locs ls  hH hS (lv_sub hl [] rfl)
        · skip
          have rlc9 : y1.toInt ≠ (0 : Int) := iv_ne c9
          refine lv_iload_n hx hb dX11_two_193 rfl (lv_at hl 2 rfl) ?_
          refine lv_if_eq (tgt := 201) hx hb dX11_two_194 (by decide) (fun c11 => ?_) (fun c11 => ?_)
          · skip
            have rlc11 : y2.toInt = (0 : Int) := congrArg Int32.toInt c11
            have ir12 : IV y2 0 0 := iv_eL c11 (iv_c (by decide) : IV 0 0 0)
            have ir12a := ir12.1; have ir12b := ir12.2
            exact J201 H locs ls  hH hS (lv_sub hl [] rfl)
          · skip
            have rlc11 : y2.toInt ≠ (0 : Int) := iv_ne c11
            refine lv_iconst (v := 1) hx hb dX11_two_197 (by decide) ?_
            refine lv_goto (tgt := 202) hx hb dX11_two_198 (by decide) ?_
            exact J202_s0_1 H locs ls  hH hS (lv_sub hl [] rfl)
      · refine lv_tableIn (tgt := 203) (off := 202) hx hb dX11_two_1 (by omega) (by omega) (by rw [c1b]; rfl) (by decide) ?_
        refine lv_iload_n hx hb dX11_two_203 rfl (lv_at hl 1 rfl) ?_
        refine lv_if_ne (tgt := 211) hx hb dX11_two_204 (by decide) (fun c13 => ?_) (fun c13 => ?_)
        · skip
          have rlc13 : y1.toInt ≠ (0 : Int) := iv_ne c13
          exact J211 H locs ls  hH hS (lv_sub hl [] rfl)
        · skip
          have rlc13 : y1.toInt = (0 : Int) := congrArg Int32.toInt c13
          have ir14 : IV y1 0 0 := iv_eL c13 (iv_c (by decide) : IV 0 0 0)
          have ir14a := ir14.1; have ir14b := ir14.2
          refine lv_iload_n hx hb dX11_two_207 rfl (lv_at hl 2 rfl) ?_
          refine lv_if_eq (tgt := 215) hx hb dX11_two_208 (by decide) (fun c15 => ?_) (fun c15 => ?_)
          · skip
            have rlc15 : y2.toInt = (0 : Int) := congrArg Int32.toInt c15
            have ir16 : IV y2 0 0 := iv_eL c15 (iv_c (by decide) : IV 0 0 0)
            have ir16a := ir16.1; have ir16b := ir16.2
            refine lv_iconst (v := 0) hx hb dX11_two_215 (by decide) ?_
            exact J216_s0_0 H locs ls  hH hS (lv_sub hl [] rfl)
          · skip
            have rlc15 : y2.toInt ≠ (0 : Int) := iv_ne c15
            exact J211 H locs ls  hH hS (lv_sub hl [] rfl)
      · refine lv_tableIn (tgt := 203) (off := 202) hx hb dX11_two_1 (by omega) (by omega) (by rw [c1b]; rfl) (by decide) ?_
        refine lv_iload_n hx hb dX11_two_203 rfl (lv_at hl 1 rfl) ?_
        refine lv_if_ne (tgt := 211) hx hb dX11_two_204 (by decide) (fun c17 => ?_) (fun c17 => ?_)
        · skip
          have rlc17 : y1.toInt ≠ (0 : Int) := iv_ne c17
          exact J211 H locs ls  hH hS (lv_sub hl [] rfl)
        · skip
          have rlc17 : y1.toInt = (0 : Int) := congrArg Int32.toInt c17
          have ir18 : IV y1 0 0 := iv_eL c17 (iv_c (by decide) : IV 0 0 0)
          have ir18a := ir18.1; have ir18b := ir18.2
          refine lv_iload_n hx hb dX11_two_207 rfl (lv_at hl 2 rfl) ?_
          refine lv_if_eq (tgt := 215) hx hb dX11_two_208 (by decide) (fun c19 => ?_) (fun c19 => ?_)
          · skip
            have rlc19 : y2.toInt = (0 : Int) := congrArg Int32.toInt c19
            have ir20 : IV y2 0 0 := iv_eL c19 (iv_c (by decide) : IV 0 0 0)
            have ir20a := ir20.1; have ir20b := ir20.2
            refine lv_iconst (v := 0) hx hb dX11_two_215 (by decide) ?_
            exact J216_s0_0 H locs ls  hH hS (lv_sub hl [] rfl)
          · skip
            have rlc19 : y2.toInt ≠ (0 : Int) := iv_ne c19
            exact J211 H locs ls  hH hS (lv_sub hl [] rfl)
      · refine lv_tableIn (tgt := 203) (off := 202) hx hb dX11_two_1 (by omega) (by omega) (by rw [c1b]; rfl) (by decide) ?_
        refine lv_iload_n hx hb dX11_two_203 rfl (lv_at hl 1 rfl) ?_
        refine lv_if_ne (tgt := 211) hx hb dX11_two_204 (by decide) (fun c21 => ?_) (fun c21 => ?_)
        · skip
          have rlc21 : y1.toInt ≠ (0 : Int) := iv_ne c21
          exact J211 H locs ls  hH hS (lv_sub hl [] rfl)
        · skip
          have rlc21 : y1.toInt = (0 : Int) := congrArg Int32.toInt c21
          have ir22 : IV y1 0 0 := iv_eL c21 (iv_c (by decide) : IV 0 0 0)
          have ir22a := ir22.1; have ir22b := ir22.2
          refine lv_iload_n hx hb dX11_two_207 rfl (lv_at hl 2 rfl) ?_
          refine lv_if_eq (tgt := 215) hx hb dX11_two_208 (by decide) (fun c23 => ?_) (fun c23 => ?_)
          · skip
            have rlc23 : y2.toInt = (0 : Int) := congrArg Int32.toInt c23
            have ir24 : IV y2 0 0 := iv_eL c23 (iv_c (by decide) : IV 0 0 0)
            have ir24a := ir24.1; have ir24b := ir24.2
            refine lv_iconst (v := 0) hx hb dX11_two_215 (by decide) ?_
            exact J216_s0_0 H locs ls  hH hS (lv_sub hl [] rfl)
          · skip
            have rlc23 : y2.toInt ≠ (0 : Int) := iv_ne c23
            exact J211 H locs ls  hH hS (lv_sub hl [] rfl)
      · refine lv_tableIn (tgt := 128) (off := 127) hx hb dX11_two_1 (by omega) (by omega) (by rw [c1b]; rfl) (by decide) ?_
        refine lv_iload_n hx hb dX11_two_128 rfl (lv_at hl 1 rfl) ?_
        refine lv_iload_n hx hb dX11_two_129 rfl (lv_at hl 2 rfl) ?_
        refine lv_imul hx hb dX11_two_130 ?_
        refine lv_topi (fun x25 ex25 => ?_)
        have ix25 := iv_top x25
        exact th_iret S hK hH hS hr hlocks (th_R.i ix25) dX11_two_131
      · refine lv_tableIn (tgt := 120) (off := 119) hx hb dX11_two_1 (by omega) (by omega) (by rw [c1b]; rfl) (by decide) ?_
        refine lv_iload_n hx hb dX11_two_120 rfl (lv_at hl 1 rfl) ?_
        refine lv_iload_n hx hb dX11_two_121 rfl (lv_at hl 2 rfl) ?_
        refine lv_iadd hx hb dX11_two_122 ?_
        refine lv_topi (fun x26 ex26 => ?_)
        have ix26 := iv_top x26
        exact th_iret S hK hH hS hr hlocks (th_R.i ix26) dX11_two_123
      · refine lv_tableIn (tgt := 203) (off := 202) hx hb dX11_two_1 (by omega) (by omega) (by rw [c1b]; rfl) (by decide) ?_
        refine lv_iload_n hx hb dX11_two_203 rfl (lv_at hl 1 rfl) ?_
        refine lv_if_ne (tgt := 211) hx hb dX11_two_204 (by decide) (fun c27 => ?_) (fun c27 => ?_)
        · skip
          have rlc27 : y1.toInt ≠ (0 : Int) := iv_ne c27
          exact J211 H locs ls  hH hS (lv_sub hl [] rfl)
        · skip
          have rlc27 : y1.toInt = (0 : Int) := congrArg Int32.toInt c27
          have ir28 : IV y1 0 0 := iv_eL c27 (iv_c (by decide) : IV 0 0 0)
          have ir28a := ir28.1; have ir28b := ir28.2
          refine lv_iload_n hx hb dX11_two_207 rfl (lv_at hl 2 rfl) ?_
          refine lv_if_eq (tgt := 215) hx hb dX11_two_208 (by decide) (fun c29 => ?_) (fun c29 => ?_)
          · skip
            have rlc29 : y2.toInt = (0 : Int) := congrArg Int32.toInt c29
            have ir30 : IV y2 0 0 := iv_eL c29 (iv_c (by decide) : IV 0 0 0)
            have ir30a := ir30.1; have ir30b := ir30.2
            refine lv_iconst (v := 0) hx hb dX11_two_215 (by decide) ?_
            exact J216_s0_0 H locs ls  hH hS (lv_sub hl [] rfl)
          · skip
            have rlc29 : y2.toInt ≠ (0 : Int) := iv_ne c29
            exact J211 H locs ls  hH hS (lv_sub hl [] rfl)
      · refine lv_tableIn (tgt := 124) (off := 123) hx hb dX11_two_1 (by omega) (by omega) (by rw [c1b]; rfl) (by decide) ?_
        refine lv_iload_n hx hb dX11_two_124 rfl (lv_at hl 1 rfl) ?_
        refine lv_iload_n hx hb dX11_two_125 rfl (lv_at hl 2 rfl) ?_
        refine lv_isub hx hb dX11_two_126 ?_
        refine lv_topi (fun x31 ex31 => ?_)
        have ix31 := iv_top x31
        exact th_iret S hK hH hS hr hlocks (th_R.i ix31) dX11_two_127
      · refine lv_tableIn (tgt := 203) (off := 202) hx hb dX11_two_1 (by omega) (by omega) (by rw [c1b]; rfl) (by decide) ?_
        refine lv_iload_n hx hb dX11_two_203 rfl (lv_at hl 1 rfl) ?_
        refine lv_if_ne (tgt := 211) hx hb dX11_two_204 (by decide) (fun c32 => ?_) (fun c32 => ?_)
        · skip
          have rlc32 : y1.toInt ≠ (0 : Int) := iv_ne c32
          exact J211 H locs ls  hH hS (lv_sub hl [] rfl)
        · skip
          have rlc32 : y1.toInt = (0 : Int) := congrArg Int32.toInt c32
          have ir33 : IV y1 0 0 := iv_eL c32 (iv_c (by decide) : IV 0 0 0)
          have ir33a := ir33.1; have ir33b := ir33.2
          refine lv_iload_n hx hb dX11_two_207 rfl (lv_at hl 2 rfl) ?_
          refine lv_if_eq (tgt := 215) hx hb dX11_two_208 (by decide) (fun c34 => ?_) (fun c34 => ?_)
          · skip
            have rlc34 : y2.toInt = (0 : Int) := congrArg Int32.toInt c34
            have ir35 : IV y2 0 0 := iv_eL c34 (iv_c (by decide) : IV 0 0 0)
            have ir35a := ir35.1; have ir35b := ir35.2
            refine lv_iconst (v := 0) hx hb dX11_two_215 (by decide) ?_
            exact J216_s0_0 H locs ls  hH hS (lv_sub hl [] rfl)
          · skip
            have rlc34 : y2.toInt ≠ (0 : Int) := iv_ne c34
            exact J211 H locs ls  hH hS (lv_sub hl [] rfl)
      · refine lv_tableIn (tgt := 132) (off := 131) hx hb dX11_two_1 (by omega) (by omega) (by rw [c1b]; rfl) (by decide) ?_
        refine lv_iload_n hx hb dX11_two_132 rfl (lv_at hl 2 rfl) ?_
        refine lv_if_ne (tgt := 140) hx hb dX11_two_133 (by decide) (fun c36 => ?_) (fun c36 => ?_)
        · skip
          have rlc36 : y2.toInt ≠ (0 : Int) := iv_ne c36
          refine lv_iload_n hx hb dX11_two_140 rfl (lv_at hl 1 rfl) ?_
          refine lv_iload_n hx hb dX11_two_141 rfl (lv_at hl 2 rfl) ?_
          refine lv_idiv hx hb dX11_two_142 c36 ?_
          refine lv_topi (fun x37 ex37 => ?_)
          have ix37 := iv_top x37
          exact J143 H locs ls x37 ix37 hH hS (lv_sub hl [] rfl)
        · skip
          have rlc36 : y2.toInt = (0 : Int) := congrArg Int32.toInt c36
          have ir38 : IV y2 0 0 := iv_eL c36 (iv_c (by decide) : IV 0 0 0)
          have ir38a := ir38.1; have ir38b := ir38.2
          refine lv_iconst (v := 0) hx hb dX11_two_136 (by decide) ?_
          refine lv_goto (tgt := 143) hx hb dX11_two_137 (by decide) ?_
          exact J143_s0_0 H locs ls  hH hS (lv_sub hl [] rfl)
      · refine lv_tableIn (tgt := 203) (off := 202) hx hb dX11_two_1 (by omega) (by omega) (by rw [c1b]; rfl) (by decide) ?_
        refine lv_iload_n hx hb dX11_two_203 rfl (lv_at hl 1 rfl) ?_
        refine lv_if_ne (tgt := 211) hx hb dX11_two_204 (by decide) (fun c39 => ?_) (fun c39 => ?_)
        · skip
          have rlc39 : y1.toInt ≠ (0 : Int) := iv_ne c39
          exact J211 H locs ls  hH hS (lv_sub hl [] rfl)
        · skip
          have rlc39 : y1.toInt = (0 : Int) := congrArg Int32.toInt c39
          have ir40 : IV y1 0 0 := iv_eL c39 (iv_c (by decide) : IV 0 0 0)
          have ir40a := ir40.1; have ir40b := ir40.2
          refine lv_iload_n hx hb dX11_two_207 rfl (lv_at hl 2 rfl) ?_
          refine lv_if_eq (tgt := 215) hx hb dX11_two_208 (by decide) (fun c41 => ?_) (fun c41 => ?_)
          · skip
            have rlc41 : y2.toInt = (0 : Int) := congrArg Int32.toInt c41
            have ir42 : IV y2 0 0 := iv_eL c41 (iv_c (by decide) : IV 0 0 0)
            have ir42a := ir42.1; have ir42b := ir42.2
            refine lv_iconst (v := 0) hx hb dX11_two_215 (by decide) ?_
            exact J216_s0_0 H locs ls  hH hS (lv_sub hl [] rfl)
          · skip
            have rlc41 : y2.toInt ≠ (0 : Int) := iv_ne c41
            exact J211 H locs ls  hH hS (lv_sub hl [] rfl)
      · refine lv_tableIn (tgt := 203) (off := 202) hx hb dX11_two_1 (by omega) (by omega) (by rw [c1b]; rfl) (by decide) ?_
        refine lv_iload_n hx hb dX11_two_203 rfl (lv_at hl 1 rfl) ?_
        refine lv_if_ne (tgt := 211) hx hb dX11_two_204 (by decide) (fun c43 => ?_) (fun c43 => ?_)
        · skip
          have rlc43 : y1.toInt ≠ (0 : Int) := iv_ne c43
          exact J211 H locs ls  hH hS (lv_sub hl [] rfl)
        · skip
          have rlc43 : y1.toInt = (0 : Int) := congrArg Int32.toInt c43
          have ir44 : IV y1 0 0 := iv_eL c43 (iv_c (by decide) : IV 0 0 0)
          have ir44a := ir44.1; have ir44b := ir44.2
          refine lv_iload_n hx hb dX11_two_207 rfl (lv_at hl 2 rfl) ?_
          refine lv_if_eq (tgt := 215) hx hb dX11_two_208 (by decide) (fun c45 => ?_) (fun c45 => ?_)
          · skip
            have rlc45 : y2.toInt = (0 : Int) := congrArg Int32.toInt c45
            have ir46 : IV y2 0 0 := iv_eL c45 (iv_c (by decide) : IV 0 0 0)
            have ir46a := ir46.1; have ir46b := ir46.2
            refine lv_iconst (v := 0) hx hb dX11_two_215 (by decide) ?_
            exact J216_s0_0 H locs ls  hH hS (lv_sub hl [] rfl)
          · skip
            have rlc45 : y2.toInt ≠ (0 : Int) := iv_ne c45
            exact J211 H locs ls  hH hS (lv_sub hl [] rfl)
      · refine lv_tableIn (tgt := 203) (off := 202) hx hb dX11_two_1 (by omega) (by omega) (by rw [c1b]; rfl) (by decide) ?_
        refine lv_iload_n hx hb dX11_two_203 rfl (lv_at hl 1 rfl) ?_
        refine lv_if_ne (tgt := 211) hx hb dX11_two_204 (by decide) (fun c47 => ?_) (fun c47 => ?_)
        · skip
          have rlc47 : y1.toInt ≠ (0 : Int) := iv_ne c47
          exact J211 H locs ls  hH hS (lv_sub hl [] rfl)
        · skip
          have rlc47 : y1.toInt = (0 : Int) := congrArg Int32.toInt c47
          have ir48 : IV y1 0 0 := iv_eL c47 (iv_c (by decide) : IV 0 0 0)
          have ir48a := ir48.1; have ir48b := ir48.2
          refine lv_iload_n hx hb dX11_two_207 rfl (lv_at hl 2 rfl) ?_
          refine lv_if_eq (tgt := 215) hx hb dX11_two_208 (by decide) (fun c49 => ?_) (fun c49 => ?_)
          · skip
            have rlc49 : y2.toInt = (0 : Int) := congrArg Int32.toInt c49
            have ir50 : IV y2 0 0 := iv_eL c49 (iv_c (by decide) : IV 0 0 0)
            have ir50a := ir50.1; have ir50b := ir50.2
            refine lv_iconst (v := 0) hx hb dX11_two_215 (by decide) ?_
            exact J216_s0_0 H locs ls  hH hS (lv_sub hl [] rfl)
          · skip
            have rlc49 : y2.toInt ≠ (0 : Int) := iv_ne c49
            exact J211 H locs ls  hH hS (lv_sub hl [] rfl)
      · refine lv_tableIn (tgt := 203) (off := 202) hx hb dX11_two_1 (by omega) (by omega) (by rw [c1b]; rfl) (by decide) ?_
        refine lv_iload_n hx hb dX11_two_203 rfl (lv_at hl 1 rfl) ?_
        refine lv_if_ne (tgt := 211) hx hb dX11_two_204 (by decide) (fun c51 => ?_) (fun c51 => ?_)
        · skip
          have rlc51 : y1.toInt ≠ (0 : Int) := iv_ne c51
          exact J211 H locs ls  hH hS (lv_sub hl [] rfl)
        · skip
          have rlc51 : y1.toInt = (0 : Int) := congrArg Int32.toInt c51
          have ir52 : IV y1 0 0 := iv_eL c51 (iv_c (by decide) : IV 0 0 0)
          have ir52a := ir52.1; have ir52b := ir52.2
          refine lv_iload_n hx hb dX11_two_207 rfl (lv_at hl 2 rfl) ?_
          refine lv_if_eq (tgt := 215) hx hb dX11_two_208 (by decide) (fun c53 => ?_) (fun c53 => ?_)
          · skip
            have rlc53 : y2.toInt = (0 : Int) := congrArg Int32.toInt c53
            have ir54 : IV y2 0 0 := iv_eL c53 (iv_c (by decide) : IV 0 0 0)
            have ir54a := ir54.1; have ir54b := ir54.2
            refine lv_iconst (v := 0) hx hb dX11_two_215 (by decide) ?_
            exact J216_s0_0 H locs ls  hH hS (lv_sub hl [] rfl)
          · skip
            have rlc53 : y2.toInt ≠ (0 : Int) := iv_ne c53
            exact J211 H locs ls  hH hS (lv_sub hl [] rfl)
      · refine lv_tableIn (tgt := 203) (off := 202) hx hb dX11_two_1 (by omega) (by omega) (by rw [c1b]; rfl) (by decide) ?_
        refine lv_iload_n hx hb dX11_two_203 rfl (lv_at hl 1 rfl) ?_
        refine lv_if_ne (tgt := 211) hx hb dX11_two_204 (by decide) (fun c55 => ?_) (fun c55 => ?_)
        · skip
          have rlc55 : y1.toInt ≠ (0 : Int) := iv_ne c55
          exact J211 H locs ls  hH hS (lv_sub hl [] rfl)
        · skip
          have rlc55 : y1.toInt = (0 : Int) := congrArg Int32.toInt c55
          have ir56 : IV y1 0 0 := iv_eL c55 (iv_c (by decide) : IV 0 0 0)
          have ir56a := ir56.1; have ir56b := ir56.2
          refine lv_iload_n hx hb dX11_two_207 rfl (lv_at hl 2 rfl) ?_
          refine lv_if_eq (tgt := 215) hx hb dX11_two_208 (by decide) (fun c57 => ?_) (fun c57 => ?_)
          · skip
            have rlc57 : y2.toInt = (0 : Int) := congrArg Int32.toInt c57
            have ir58 : IV y2 0 0 := iv_eL c57 (iv_c (by decide) : IV 0 0 0)
            have ir58a := ir58.1; have ir58b := ir58.2
            refine lv_iconst (v := 0) hx hb dX11_two_215 (by decide) ?_
            exact J216_s0_0 H locs ls  hH hS (lv_sub hl [] rfl)
          · skip
            have rlc57 : y2.toInt ≠ (0 : Int) := iv_ne c57
            exact J211 H locs ls  hH hS (lv_sub hl [] rfl)
      · refine lv_tableIn (tgt := 203) (off := 202) hx hb dX11_two_1 (by omega) (by omega) (by rw [c1b]; rfl) (by decide) ?_
        refine lv_iload_n hx hb dX11_two_203 rfl (lv_at hl 1 rfl) ?_
        refine lv_if_ne (tgt := 211) hx hb dX11_two_204 (by decide) (fun c59 => ?_) (fun c59 => ?_)
        · skip
          have rlc59 : y1.toInt ≠ (0 : Int) := iv_ne c59
          exact J211 H locs ls  hH hS (lv_sub hl [] rfl)
        · skip
          have rlc59 : y1.toInt = (0 : Int) := congrArg Int32.toInt c59
          have ir60 : IV y1 0 0 := iv_eL c59 (iv_c (by decide) : IV 0 0 0)
          have ir60a := ir60.1; have ir60b := ir60.2
          refine lv_iload_n hx hb dX11_two_207 rfl (lv_at hl 2 rfl) ?_
          refine lv_if_eq (tgt := 215) hx hb dX11_two_208 (by decide) (fun c61 => ?_) (fun c61 => ?_)
          · skip
            have rlc61 : y2.toInt = (0 : Int) := congrArg Int32.toInt c61
            have ir62 : IV y2 0 0 := iv_eL c61 (iv_c (by decide) : IV 0 0 0)
            have ir62a := ir62.1; have ir62b := ir62.2
            refine lv_iconst (v := 0) hx hb dX11_two_215 (by decide) ?_
            exact J216_s0_0 H locs ls  hH hS (lv_sub hl [] rfl)
          · skip
            have rlc61 : y2.toInt ≠ (0 : Int) := iv_ne c61
            exact J211 H locs ls  hH hS (lv_sub hl [] rfl)
      · refine lv_tableIn (tgt := 203) (off := 202) hx hb dX11_two_1 (by omega) (by omega) (by rw [c1b]; rfl) (by decide) ?_
        refine lv_iload_n hx hb dX11_two_203 rfl (lv_at hl 1 rfl) ?_
        refine lv_if_ne (tgt := 211) hx hb dX11_two_204 (by decide) (fun c63 => ?_) (fun c63 => ?_)
        · skip
          have rlc63 : y1.toInt ≠ (0 : Int) := iv_ne c63
          exact J211 H locs ls  hH hS (lv_sub hl [] rfl)
        · skip
          have rlc63 : y1.toInt = (0 : Int) := congrArg Int32.toInt c63
          have ir64 : IV y1 0 0 := iv_eL c63 (iv_c (by decide) : IV 0 0 0)
          have ir64a := ir64.1; have ir64b := ir64.2
          refine lv_iload_n hx hb dX11_two_207 rfl (lv_at hl 2 rfl) ?_
          refine lv_if_eq (tgt := 215) hx hb dX11_two_208 (by decide) (fun c65 => ?_) (fun c65 => ?_)
          · skip
            have rlc65 : y2.toInt = (0 : Int) := congrArg Int32.toInt c65
            have ir66 : IV y2 0 0 := iv_eL c65 (iv_c (by decide) : IV 0 0 0)
            have ir66a := ir66.1; have ir66b := ir66.2
            refine lv_iconst (v := 0) hx hb dX11_two_215 (by decide) ?_
            exact J216_s0_0 H locs ls  hH hS (lv_sub hl [] rfl)
          · skip
            have rlc65 : y2.toInt ≠ (0 : Int) := iv_ne c65
            exact J211 H locs ls  hH hS (lv_sub hl [] rfl)
      · refine lv_tableIn (tgt := 203) (off := 202) hx hb dX11_two_1 (by omega) (by omega) (by rw [c1b]; rfl) (by decide) ?_
        refine lv_iload_n hx hb dX11_two_203 rfl (lv_at hl 1 rfl) ?_
        refine lv_if_ne (tgt := 211) hx hb dX11_two_204 (by decide) (fun c67 => ?_) (fun c67 => ?_)
        · skip
          have rlc67 : y1.toInt ≠ (0 : Int) := iv_ne c67
          exact J211 H locs ls  hH hS (lv_sub hl [] rfl)
        · skip
          have rlc67 : y1.toInt = (0 : Int) := congrArg Int32.toInt c67
          have ir68 : IV y1 0 0 := iv_eL c67 (iv_c (by decide) : IV 0 0 0)
          have ir68a := ir68.1; have ir68b := ir68.2
          refine lv_iload_n hx hb dX11_two_207 rfl (lv_at hl 2 rfl) ?_
          refine lv_if_eq (tgt := 215) hx hb dX11_two_208 (by decide) (fun c69 => ?_) (fun c69 => ?_)
          · skip
            have rlc69 : y2.toInt = (0 : Int) := congrArg Int32.toInt c69
            have ir70 : IV y2 0 0 := iv_eL c69 (iv_c (by decide) : IV 0 0 0)
            have ir70a := ir70.1; have ir70b := ir70.2
            refine lv_iconst (v := 0) hx hb dX11_two_215 (by decide) ?_
            exact J216_s0_0 H locs ls  hH hS (lv_sub hl [] rfl)
          · skip
            have rlc69 : y2.toInt ≠ (0 : Int) := iv_ne c69
            exact J211 H locs ls  hH hS (lv_sub hl [] rfl)
      · refine lv_tableIn (tgt := 203) (off := 202) hx hb dX11_two_1 (by omega) (by omega) (by rw [c1b]; rfl) (by decide) ?_
        refine lv_iload_n hx hb dX11_two_203 rfl (lv_at hl 1 rfl) ?_
        refine lv_if_ne (tgt := 211) hx hb dX11_two_204 (by decide) (fun c71 => ?_) (fun c71 => ?_)
        · skip
          have rlc71 : y1.toInt ≠ (0 : Int) := iv_ne c71
          exact J211 H locs ls  hH hS (lv_sub hl [] rfl)
        · skip
          have rlc71 : y1.toInt = (0 : Int) := congrArg Int32.toInt c71
          have ir72 : IV y1 0 0 := iv_eL c71 (iv_c (by decide) : IV 0 0 0)
          have ir72a := ir72.1; have ir72b := ir72.2
          refine lv_iload_n hx hb dX11_two_207 rfl (lv_at hl 2 rfl) ?_
          refine lv_if_eq (tgt := 215) hx hb dX11_two_208 (by decide) (fun c73 => ?_) (fun c73 => ?_)
          · skip
            have rlc73 : y2.toInt = (0 : Int) := congrArg Int32.toInt c73
            have ir74 : IV y2 0 0 := iv_eL c73 (iv_c (by decide) : IV 0 0 0)
            have ir74a := ir74.1; have ir74b := ir74.2
            refine lv_iconst (v := 0) hx hb dX11_two_215 (by decide) ?_
            exact J216_s0_0 H locs ls  hH hS (lv_sub hl [] rfl)
          · skip
            have rlc73 : y2.toInt ≠ (0 : Int) := iv_ne c73
            exact J211 H locs ls  hH hS (lv_sub hl [] rfl)
      · refine lv_tableIn (tgt := 203) (off := 202) hx hb dX11_two_1 (by omega) (by omega) (by rw [c1b]; rfl) (by decide) ?_
        refine lv_iload_n hx hb dX11_two_203 rfl (lv_at hl 1 rfl) ?_
        refine lv_if_ne (tgt := 211) hx hb dX11_two_204 (by decide) (fun c75 => ?_) (fun c75 => ?_)
        · skip
          have rlc75 : y1.toInt ≠ (0 : Int) := iv_ne c75
          exact J211 H locs ls  hH hS (lv_sub hl [] rfl)
        · skip
          have rlc75 : y1.toInt = (0 : Int) := congrArg Int32.toInt c75
          have ir76 : IV y1 0 0 := iv_eL c75 (iv_c (by decide) : IV 0 0 0)
          have ir76a := ir76.1; have ir76b := ir76.2
          refine lv_iload_n hx hb dX11_two_207 rfl (lv_at hl 2 rfl) ?_
          refine lv_if_eq (tgt := 215) hx hb dX11_two_208 (by decide) (fun c77 => ?_) (fun c77 => ?_)
          · skip
            have rlc77 : y2.toInt = (0 : Int) := congrArg Int32.toInt c77
            have ir78 : IV y2 0 0 := iv_eL c77 (iv_c (by decide) : IV 0 0 0)
            have ir78a := ir78.1; have ir78b := ir78.2
            refine lv_iconst (v := 0) hx hb dX11_two_215 (by decide) ?_
            exact J216_s0_0 H locs ls  hH hS (lv_sub hl [] rfl)
          · skip
            have rlc77 : y2.toInt ≠ (0 : Int) := iv_ne c77
            exact J211 H locs ls  hH hS (lv_sub hl [] rfl)
      · refine lv_tableIn (tgt := 203) (off := 202) hx hb dX11_two_1 (by omega) (by omega) (by rw [c1b]; rfl) (by decide) ?_
        refine lv_iload_n hx hb dX11_two_203 rfl (lv_at hl 1 rfl) ?_
        refine lv_if_ne (tgt := 211) hx hb dX11_two_204 (by decide) (fun c79 => ?_) (fun c79 => ?_)
        · skip
          have rlc79 : y1.toInt ≠ (0 : Int) := iv_ne c79
          exact J211 H locs ls  hH hS (lv_sub hl [] rfl)
        · skip
          have rlc79 : y1.toInt = (0 : Int) := congrArg Int32.toInt c79
          have ir80 : IV y1 0 0 := iv_eL c79 (iv_c (by decide) : IV 0 0 0)
          have ir80a := ir80.1; have ir80b := ir80.2
          refine lv_iload_n hx hb dX11_two_207 rfl (lv_at hl 2 rfl) ?_
          refine lv_if_eq (tgt := 215) hx hb dX11_two_208 (by decide) (fun c81 => ?_) (fun c81 => ?_)
          · skip
            have rlc81 : y2.toInt = (0 : Int) := congrArg Int32.toInt c81
            have ir82 : IV y2 0 0 := iv_eL c81 (iv_c (by decide) : IV 0 0 0)
            have ir82a := ir82.1; have ir82b := ir82.2
            refine lv_iconst (v := 0) hx hb dX11_two_215 (by decide) ?_
            exact J216_s0_0 H locs ls  hH hS (lv_sub hl [] rfl)
          · skip
            have rlc81 : y2.toInt ≠ (0 : Int) := iv_ne c81
            exact J211 H locs ls  hH hS (lv_sub hl [] rfl)
      · refine lv_tableIn (tgt := 203) (off := 202) hx hb dX11_two_1 (by omega) (by omega) (by rw [c1b]; rfl) (by decide) ?_
        refine lv_iload_n hx hb dX11_two_203 rfl (lv_at hl 1 rfl) ?_
        refine lv_if_ne (tgt := 211) hx hb dX11_two_204 (by decide) (fun c83 => ?_) (fun c83 => ?_)
        · skip
          have rlc83 : y1.toInt ≠ (0 : Int) := iv_ne c83
          exact J211 H locs ls  hH hS (lv_sub hl [] rfl)
        · skip
          have rlc83 : y1.toInt = (0 : Int) := congrArg Int32.toInt c83
          have ir84 : IV y1 0 0 := iv_eL c83 (iv_c (by decide) : IV 0 0 0)
          have ir84a := ir84.1; have ir84b := ir84.2
          refine lv_iload_n hx hb dX11_two_207 rfl (lv_at hl 2 rfl) ?_
          refine lv_if_eq (tgt := 215) hx hb dX11_two_208 (by decide) (fun c85 => ?_) (fun c85 => ?_)
          · skip
            have rlc85 : y2.toInt = (0 : Int) := congrArg Int32.toInt c85
            have ir86 : IV y2 0 0 := iv_eL c85 (iv_c (by decide) : IV 0 0 0)
            have ir86a := ir86.1; have ir86b := ir86.2
            refine lv_iconst (v := 0) hx hb dX11_two_215 (by decide) ?_
            exact J216_s0_0 H locs ls  hH hS (lv_sub hl [] rfl)
          · skip
            have rlc85 : y2.toInt ≠ (0 : Int) := iv_ne c85
            exact J211 H locs ls  hH hS (lv_sub hl [] rfl)
      · refine lv_tableIn (tgt := 156) (off := 155) hx hb dX11_two_1 (by omega) (by omega) (by rw [c1b]; rfl) (by decide) ?_
        refine lv_iload_n hx hb dX11_two_156 rfl (lv_at hl 1 rfl) ?_
        refine lv_iload_n hx hb dX11_two_157 rfl (lv_at hl 2 rfl) ?_
        refine lv_icmp_ge (tgt := 165) hx hb dX11_two_158 (by decide) (fun c87 => ?_) (fun c87 => ?_)
        · skip
          have rlc87 : y2.toInt ≤ y1.toInt := iv_le c87
          refine lv_iconst (v := 0) hx hb dX11_two_165 (by decide) ?_
          exact J166_s0_0 H locs ls  hH hS (lv_sub hl [] rfl)
        · skip
          have rlc87 : y1.toInt < y2.toInt := iv_nle c87
          have ir88 : IV y1 (-2147483648) 2147483646 := iv_uL j1 j2 (iv_nle c87) (by decide)
          have ir88a := ir88.1; have ir88b := ir88.2
          have ir89 : IV y2 (-2147483647) 2147483647 := iv_uR j1 j2 (iv_nle c87) (by decide)
          have ir89a := ir89.1; have ir89b := ir89.2
          refine lv_iconst (v := 1) hx hb dX11_two_161 (by decide) ?_
          refine lv_goto (tgt := 166) hx hb dX11_two_162 (by decide) ?_
          exact J166_s0_1 H locs ls  hH hS (lv_sub hl [] rfl)
      · refine lv_tableIn (tgt := 178) (off := 177) hx hb dX11_two_1 (by omega) (by omega) (by rw [c1b]; rfl) (by decide) ?_
        refine lv_iload_n hx hb dX11_two_178 rfl (lv_at hl 1 rfl) ?_
        refine lv_iload_n hx hb dX11_two_179 rfl (lv_at hl 2 rfl) ?_
        refine lv_icmp_ne (tgt := 187) hx hb dX11_two_180 (by decide) (fun c90 => ?_) (fun c90 => ?_)
        · skip
          have rlc90 : y1.toInt ≠ y2.toInt := iv_ne c90
          refine lv_iconst (v := 0) hx hb dX11_two_187 (by decide) ?_
          exact J188_s0_0 H locs ls  hH hS (lv_sub hl [] rfl)
        · skip
          have rlc90 : y1.toInt = y2.toInt := congrArg Int32.toInt c90
          refine lv_iconst (v := 1) hx hb dX11_two_183 (by decide) ?_
          refine lv_goto (tgt := 188) hx hb dX11_two_184 (by decide) ?_
          exact J188_s0_1 H locs ls  hH hS (lv_sub hl [] rfl)
      · refine lv_tableIn (tgt := 167) (off := 166) hx hb dX11_two_1 (by omega) (by omega) (by rw [c1b]; rfl) (by decide) ?_
        refine lv_iload_n hx hb dX11_two_167 rfl (lv_at hl 1 rfl) ?_
        refine lv_iload_n hx hb dX11_two_168 rfl (lv_at hl 2 rfl) ?_
        refine lv_icmp_le (tgt := 176) hx hb dX11_two_169 (by decide) (fun c91 => ?_) (fun c91 => ?_)
        · skip
          have rlc91 : y1.toInt ≤ y2.toInt := iv_le c91
          refine lv_iconst (v := 0) hx hb dX11_two_176 (by decide) ?_
          exact J177_s0_0 H locs ls  hH hS (lv_sub hl [] rfl)
        · skip
          have rlc91 : y2.toInt < y1.toInt := iv_nle c91
          have ir92 : IV y2 (-2147483648) 2147483646 := iv_uL j2 j1 (iv_nle c91) (by decide)
          have ir92a := ir92.1; have ir92b := ir92.2
          have ir93 : IV y1 (-2147483647) 2147483647 := iv_uR j2 j1 (iv_nle c91) (by decide)
          have ir93a := ir93.1; have ir93b := ir93.2
          refine lv_iconst (v := 1) hx hb dX11_two_172 (by decide) ?_
          refine lv_goto (tgt := 177) hx hb dX11_two_173 (by decide) ?_
          exact J177_s0_1 H locs ls  hH hS (lv_sub hl [] rfl)
  exact J0 s.heap [] ls hH va_S.rf hl

set_option maxRecDepth 100000 in
theorem m_X11_asked (l : Launch) (D : va_G) (cT : Nat → ClassId) (T : Nat → Option Nat) (q : Nat → Int) (hT : tokm T) (hq : qkm q) (a0 : Nat) (t0 : T a0 = some 0) (y1 : Int32) (j1 : IV y1 (-2147483648) 2147483647) (y2 : Int32) (j2 : IV y2 (-2147483648) 2147483647) : th_Met l D cT T (km q) yX11_asked cX11_asked 3 (some .int) (rmk 0 0) [.ref a0, .int y1, .int y2] (th_R T (some (.inl (-2147483648, 2147483647)))) [] := by
  refine th_start (by decide) (Nat.le_of_ble_eq_true rfl) ?_
  intro p e s m below meth c ls S hK hH hr hlocks hnm hl
  have hx := S.1
  have hb := S.2.1
  have hl : lv_has ls 3 [(0, .ref a0), (1, .int y1), (2, .int y2)] := hl
  have J0 : ∀ (H : Heap) (locs : List Loc) (ls : Array Slot), th_H D cT T (km q) H → va_S (th_A T []) s.heap H locs → lv_has ls 3 [(0, .ref a0), (1, .int y1), (2, .int y2)] → W p l e (rmk 0 0) s m [.ref a0, .int y1, .int y2].toArray below meth c H locs 0 0 (MQ below (th_Q D cT T (km q) (th_R T (some (.inl (-2147483648, 2147483647)))) []) [.ref a0, .int y1, .int y2].toArray s 0 0 (th_A T [])) (F0 m 0 ls []) := by
    intro H locs ls hH hS hl
    refine lv_iload_n hx hb dX11_asked_0 rfl (lv_at hl 1 rfl) ?_
    by_cases c1 : y1.toInt < 99 ∨ 122 < y1.toInt
    · refine lv_tableOut (tgt := 153) hx hb dX11_asked_1 c1 (by decide) ?_
      refine lv_iload_n hx hb dX11_asked_153 rfl (lv_at hl 2 rfl) ?_
      exact th_iret S hK hH hS hr hlocks (th_R.i j2) dX11_asked_154
    · rcases (show y1.toInt = 99 ∨ y1.toInt = 100 ∨ y1.toInt = 101 ∨ y1.toInt = 102 ∨ y1.toInt = 103 ∨ y1.toInt = 104 ∨ y1.toInt = 105 ∨ y1.toInt = 106 ∨ y1.toInt = 107 ∨ y1.toInt = 108 ∨ y1.toInt = 109 ∨ y1.toInt = 110 ∨ y1.toInt = 111 ∨ y1.toInt = 112 ∨ y1.toInt = 113 ∨ y1.toInt = 114 ∨ y1.toInt = 115 ∨ y1.toInt = 116 ∨ y1.toInt = 117 ∨ y1.toInt = 118 ∨ y1.toInt = 119 ∨ y1.toInt = 120 ∨ y1.toInt = 121 ∨ y1.toInt = 122 by omega) with c1b | c1b | c1b | c1b | c1b | c1b | c1b | c1b | c1b | c1b | c1b | c1b | c1b | c1b | c1b | c1b | c1b | c1b | c1b | c1b | c1b | c1b | c1b | c1b
      · refine lv_tableIn (tgt := 130) (off := 129) hx hb dX11_asked_1 (by omega) (by omega) (by rw [c1b]; rfl) (by decide) ?_
        refine lv_aload_n hx hb dX11_asked_130 rfl (lv_at hl 0 rfl) ?_
        refine th_get S hK hH inG11 t0 km_0 rfl 52 (by decide) gm_1282 rfl rfl dX11_asked_131 (fun v2 hv2 fv2 => ?_)
        obtain ⟨rf3, rfl, trf3⟩ := th_V.ref hv2
        refine lv_bipush (v := 41) hx hb dX11_asked_134 (by decide) ?_
        refine th_iald S hK hH trf3 km_33 (th_in (hi := 41) (iv_w (iv_c (by decide) : IV 41 41 41) (by decide)) (by decide)) dX11_asked_136 (fun v4 hv4 => ?_)
        obtain ⟨x5, rfl, ix5⟩ := th_V.int hv4
        exact th_iret S hK hH hS hr hlocks (th_R.i ix5) dX11_asked_137
      · refine lv_tableIn (tgt := 153) (off := 152) hx hb dX11_asked_1 (by omega) (by omega) (by rw [c1b]; rfl) (by decide) ?_
        refine lv_iload_n hx hb dX11_asked_153 rfl (lv_at hl 2 rfl) ?_
        exact th_iret S hK hH hS hr hlocks (th_R.i j2) dX11_asked_154
      · refine lv_tableIn (tgt := 125) (off := 124) hx hb dX11_asked_1 (by omega) (by omega) (by rw [c1b]; rfl) (by decide) ?_
        refine lv_aload_n hx hb dX11_asked_125 rfl (lv_at hl 0 rfl) ?_
        refine th_get S hK hH inG11 t0 km_0 rfl 48 (by decide) gm_1278 rfl rfl dX11_asked_126 (fun v6 hv6 fv6 => ?_)
        obtain ⟨x7, rfl, ix7⟩ := th_V.int hv6
        exact th_iret S hK hH hS hr hlocks (th_R.i ix7) dX11_asked_129
      · refine lv_tableIn (tgt := 153) (off := 152) hx hb dX11_asked_1 (by omega) (by omega) (by rw [c1b]; rfl) (by decide) ?_
        refine lv_iload_n hx hb dX11_asked_153 rfl (lv_at hl 2 rfl) ?_
        exact th_iret S hK hH hS hr hlocks (th_R.i j2) dX11_asked_154
      · refine lv_tableIn (tgt := 153) (off := 152) hx hb dX11_asked_1 (by omega) (by omega) (by rw [c1b]; rfl) (by decide) ?_
        refine lv_iload_n hx hb dX11_asked_153 rfl (lv_at hl 2 rfl) ?_
        exact th_iret S hK hH hS hr hlocks (th_R.i j2) dX11_asked_154
      · refine lv_tableIn (tgt := 148) (off := 147) hx hb dX11_asked_1 (by omega) (by omega) (by rw [c1b]; rfl) (by decide) ?_
        refine lv_aload_n hx hb dX11_asked_148 rfl (lv_at hl 0 rfl) ?_
        refine th_get S hK hH inG11 t0 km_0 rfl 51 (by decide) gm_1281 rfl rfl dX11_asked_149 (fun v8 hv8 fv8 => ?_)
        obtain ⟨x9, rfl, ix9⟩ := th_V.int hv8
        exact th_iret S hK hH hS hr hlocks (th_R.i ix9) dX11_asked_152
      · refine lv_tableIn (tgt := 153) (off := 152) hx hb dX11_asked_1 (by omega) (by omega) (by rw [c1b]; rfl) (by decide) ?_
        refine lv_iload_n hx hb dX11_asked_153 rfl (lv_at hl 2 rfl) ?_
        exact th_iret S hK hH hS hr hlocks (th_R.i j2) dX11_asked_154
      · refine lv_tableIn (tgt := 153) (off := 152) hx hb dX11_asked_1 (by omega) (by omega) (by rw [c1b]; rfl) (by decide) ?_
        refine lv_iload_n hx hb dX11_asked_153 rfl (lv_at hl 2 rfl) ?_
        exact th_iret S hK hH hS hr hlocks (th_R.i j2) dX11_asked_154
      · refine lv_tableIn (tgt := 153) (off := 152) hx hb dX11_asked_1 (by omega) (by omega) (by rw [c1b]; rfl) (by decide) ?_
        refine lv_iload_n hx hb dX11_asked_153 rfl (lv_at hl 2 rfl) ?_
        exact th_iret S hK hH hS hr hlocks (th_R.i j2) dX11_asked_154
      · refine lv_tableIn (tgt := 153) (off := 152) hx hb dX11_asked_1 (by omega) (by omega) (by rw [c1b]; rfl) (by decide) ?_
        refine lv_iload_n hx hb dX11_asked_153 rfl (lv_at hl 2 rfl) ?_
        exact th_iret S hK hH hS hr hlocks (th_R.i j2) dX11_asked_154
      · refine lv_tableIn (tgt := 153) (off := 152) hx hb dX11_asked_1 (by omega) (by omega) (by rw [c1b]; rfl) (by decide) ?_
        refine lv_iload_n hx hb dX11_asked_153 rfl (lv_at hl 2 rfl) ?_
        exact th_iret S hK hH hS hr hlocks (th_R.i j2) dX11_asked_154
      · refine lv_tableIn (tgt := 153) (off := 152) hx hb dX11_asked_1 (by omega) (by omega) (by rw [c1b]; rfl) (by decide) ?_
        refine lv_iload_n hx hb dX11_asked_153 rfl (lv_at hl 2 rfl) ?_
        exact th_iret S hK hH hS hr hlocks (th_R.i j2) dX11_asked_154
      · refine lv_tableIn (tgt := 153) (off := 152) hx hb dX11_asked_1 (by omega) (by omega) (by rw [c1b]; rfl) (by decide) ?_
        refine lv_iload_n hx hb dX11_asked_153 rfl (lv_at hl 2 rfl) ?_
        exact th_iret S hK hH hS hr hlocks (th_R.i j2) dX11_asked_154
      · refine lv_tableIn (tgt := 153) (off := 152) hx hb dX11_asked_1 (by omega) (by omega) (by rw [c1b]; rfl) (by decide) ?_
        refine lv_iload_n hx hb dX11_asked_153 rfl (lv_at hl 2 rfl) ?_
        exact th_iret S hK hH hS hr hlocks (th_R.i j2) dX11_asked_154
      · refine lv_tableIn (tgt := 153) (off := 152) hx hb dX11_asked_1 (by omega) (by omega) (by rw [c1b]; rfl) (by decide) ?_
        refine lv_iload_n hx hb dX11_asked_153 rfl (lv_at hl 2 rfl) ?_
        exact th_iret S hK hH hS hr hlocks (th_R.i j2) dX11_asked_154
      · refine lv_tableIn (tgt := 153) (off := 152) hx hb dX11_asked_1 (by omega) (by omega) (by rw [c1b]; rfl) (by decide) ?_
        refine lv_iload_n hx hb dX11_asked_153 rfl (lv_at hl 2 rfl) ?_
        exact th_iret S hK hH hS hr hlocks (th_R.i j2) dX11_asked_154
      · refine lv_tableIn (tgt := 112) (off := 111) hx hb dX11_asked_1 (by omega) (by omega) (by rw [c1b]; rfl) (by decide) ?_
        refine lv_aload_n hx hb dX11_asked_112 rfl (lv_at hl 0 rfl) ?_
        refine th_get S hK hH inG11 t0 km_0 rfl 47 (by decide) gm_1277 rfl rfl dX11_asked_113 (fun v10 hv10 fv10 => ?_)
        obtain ⟨x11, rfl, ix11⟩ := th_V.int hv10
        exact th_iret S hK hH hS hr hlocks (th_R.i ix11) dX11_asked_116
      · refine lv_tableIn (tgt := 153) (off := 152) hx hb dX11_asked_1 (by omega) (by omega) (by rw [c1b]; rfl) (by decide) ?_
        refine lv_iload_n hx hb dX11_asked_153 rfl (lv_at hl 2 rfl) ?_
        exact th_iret S hK hH hS hr hlocks (th_R.i j2) dX11_asked_154
      · refine lv_tableIn (tgt := 153) (off := 152) hx hb dX11_asked_1 (by omega) (by omega) (by rw [c1b]; rfl) (by decide) ?_
        refine lv_iload_n hx hb dX11_asked_153 rfl (lv_at hl 2 rfl) ?_
        exact th_iret S hK hH hS hr hlocks (th_R.i j2) dX11_asked_154
      · refine lv_tableIn (tgt := 153) (off := 152) hx hb dX11_asked_1 (by omega) (by omega) (by rw [c1b]; rfl) (by decide) ?_
        refine lv_iload_n hx hb dX11_asked_153 rfl (lv_at hl 2 rfl) ?_
        exact th_iret S hK hH hS hr hlocks (th_R.i j2) dX11_asked_154
      · refine lv_tableIn (tgt := 143) (off := 142) hx hb dX11_asked_1 (by omega) (by omega) (by rw [c1b]; rfl) (by decide) ?_
        refine lv_aload_n hx hb dX11_asked_143 rfl (lv_at hl 0 rfl) ?_
        refine th_get S hK hH inG11 t0 km_0 rfl 50 (by decide) gm_1280 rfl rfl dX11_asked_144 (fun v12 hv12 fv12 => ?_)
        obtain ⟨x13, rfl, ix13⟩ := th_V.int hv12
        exact th_iret S hK hH hS hr hlocks (th_R.i ix13) dX11_asked_147
      · refine lv_tableIn (tgt := 153) (off := 152) hx hb dX11_asked_1 (by omega) (by omega) (by rw [c1b]; rfl) (by decide) ?_
        refine lv_iload_n hx hb dX11_asked_153 rfl (lv_at hl 2 rfl) ?_
        exact th_iret S hK hH hS hr hlocks (th_R.i j2) dX11_asked_154
      · refine lv_tableIn (tgt := 117) (off := 116) hx hb dX11_asked_1 (by omega) (by omega) (by rw [c1b]; rfl) (by decide) ?_
        refine lv_aload_n hx hb dX11_asked_117 rfl (lv_at hl 0 rfl) ?_
        refine th_get S hK hH inG11 t0 km_0 rfl 52 (by decide) gm_1282 rfl rfl dX11_asked_118 (fun v14 hv14 fv14 => ?_)
        obtain ⟨rf15, rfl, trf15⟩ := th_V.ref hv14
        refine lv_bipush (v := 40) hx hb dX11_asked_121 (by decide) ?_
        refine th_iald S hK hH trf15 km_33 (th_in (hi := 40) (iv_w (iv_c (by decide) : IV 40 40 40) (by decide)) (by decide)) dX11_asked_123 (fun v16 hv16 => ?_)
        obtain ⟨x17, rfl, ix17⟩ := th_V.int hv16
        exact th_iret S hK hH hS hr hlocks (th_R.i ix17) dX11_asked_124
      · refine lv_tableIn (tgt := 138) (off := 137) hx hb dX11_asked_1 (by omega) (by omega) (by rw [c1b]; rfl) (by decide) ?_
        refine lv_aload_n hx hb dX11_asked_138 rfl (lv_at hl 0 rfl) ?_
        refine th_get S hK hH inG11 t0 km_0 rfl 49 (by decide) gm_1279 rfl rfl dX11_asked_139 (fun v18 hv18 fv18 => ?_)
        obtain ⟨x19, rfl, ix19⟩ := th_V.int hv18
        exact th_iret S hK hH hS hr hlocks (th_R.i ix19) dX11_asked_142
  exact J0 s.heap [] ls hH va_S.rf hl

set_option maxRecDepth 100000 in
theorem m_X11_comes (l : Launch) (D : va_G) (cT : Nat → ClassId) (T : Nat → Option Nat) (q : Nat → Int) (hT : tokm T) (hq : qkm q) (a0 : Nat) (t0 : T a0 = some 0) (y1 : Int32) (j1 : IV y1 0 4) (hp0 : y1.toInt < q 11 ∨ (y1.toInt = 4 ∧ q 12 = 1)) : th_Met l D cT T (km q) yX11_comes cX11_comes 5 (some .int) (rmk 1 22) [.ref a0, .int y1] (th_R T (some (.inl (-2147483648, 2147483647)))) [32] := by
  refine th_start (by decide) (Nat.le_of_ble_eq_true rfl) ?_
  intro p e s m below meth c ls S hK hH hr hlocks hnm hl
  have hx := S.1
  have hb := S.2.1
  have l1y1 := j1.1; have l2y1 := j1.2
  obtain ⟨f, t, hf, ht, hg1, hg2, hg3, hg4⟩ := rule_of hq j1 hp0
  have hl : lv_has ls 5 [(0, .ref a0), (1, .int y1)] := hl
  have J16 : ∀ (n : Nat) (H : Heap) (locs : List Loc) (ls : Array Slot) (v16_2 : Int32) (v16_3 : Int32), IV v16_2 0 60 → IV v16_3 0 1120 → (cinv q f v16_2.toInt v16_3.toInt) → (v16_3.toInt ≤ t) → th_H D cT T (km q) H → va_S (th_A T [32]) s.heap H locs → lv_has ls 5 [(0, .ref a0), (1, .int y1), (2, .int v16_2), (3, .int v16_3)] → (1120 + 1 - Int32.toInt v16_3).toNat < n → W p l e (rmk 1 22) s m [.ref a0, .int y1].toArray below meth c H locs 0 0 (MQ below (th_Q D cT T (km q) (th_R T (some (.inl (-2147483648, 2147483647)))) [32]) [.ref a0, .int y1].toArray s 0 0 (th_A T [32])) (F0 m 16 ls []) := by
    intro n
    induction n with
    | zero => intro H locs ls v16_2 v16_3 iv16_2 iv16_3 v16_inv0 v16_inv1 hH hS hl hn; exact absurd hn (Nat.not_lt_zero _)
    | succ n ih16 =>
      intro H locs ls v16_2 v16_3 iv16_2 iv16_3 v16_inv0 v16_inv1 hH hS hl hn16
      have J137 : ∀ (H : Heap) (locs : List Loc) (ls : Array Slot) (v137_2 : Int32), IV v137_2 0 60 → IV v16_3 0 1119 → (cinv q f v137_2.toInt (v16_3.toInt + 1)) → (v16_3.toInt < t) → th_H D cT T (km q) H → va_S (th_A T [32]) s.heap H locs → lv_has ls 5 [(0, .ref a0), (1, .int y1), (2, .int v137_2), (3, .int v16_3)] → W p l e (rmk 1 22) s m [.ref a0, .int y1].toArray below meth c H locs 0 0 (MQ below (th_Q D cT T (km q) (th_R T (some (.inl (-2147483648, 2147483647)))) [32]) [.ref a0, .int y1].toArray s 0 0 (th_A T [32])) (F0 m 137 ls []) := by
        intro H locs ls v137_2 iv137_2 f137_v16_3 v137_inv0 v137_inv1 hH hS hl
        have l1v137_2 := iv137_2.1; have l2v137_2 := iv137_2.2
        refine th_iinc S dX11_comes_137 hl (k := 3) rfl (by decide) f137_v16_3 (by decide) (fun x1 ls ex1 ix1 hl => ?_)
        have hl : lv_has ls 5 [(3, .int x1), (0, .ref a0), (1, .int y1), (2, .int v137_2)] := hl
        have ix1 : IV x1 1 1120 := ix1
        refine lv_goto (tgt := 16) hx hb dX11_comes_140 (by decide) ?_
        exact ih16 H locs ls v137_2 x1 iv137_2 (iv_w ix1 (by decide)) (show cinv q f v137_2.toInt x1.toInt by first | exact cinv0 hkf | (rw [ex1]; assumption)) (show x1.toInt ≤ t by omega) hH hS (lv_sub hl [1, 2, 3, 0] rfl) (th_up iv16_3 ex1 (by decide) hn16)
      have J71_s2_0 : ∀ (H : Heap) (locs : List Loc) (ls : Array Slot) (w71_0 : Nat) (w71_1 : Int32), T w71_0 = some 32 → IV w71_1 0 59 → IV v16_2 1 60 → IV v16_3 0 1119 → (cinv q f v16_2.toInt (v16_3.toInt + 1)) → (v16_3.toInt < t) → th_H D cT T (km q) H → va_S (th_A T [32]) s.heap H locs → lv_has ls 5 [(0, .ref a0), (1, .int y1), (2, .int v16_2), (3, .int v16_3)] → W p l e (rmk 1 22) s m [.ref a0, .int y1].toArray below meth c H locs 0 0 (MQ below (th_Q D cT T (km q) (th_R T (some (.inl (-2147483648, 2147483647)))) [32]) [.ref a0, .int y1].toArray s 0 0 (th_A T [32])) (F0 m 71 ls [.int 0, .int w71_1, .ref w71_0]) := by
        intro H locs ls w71_0 w71_1 tw71_0 iw71_1 f71_v16_2 f71_v16_3 v71_inv0 v71_inv1 hH hS hl
        have l1w71_1 := iw71_1.1; have l2w71_1 := iw71_1.2
        refine th_iast S hK hH hS ⟨32, by decide, tw71_0⟩ tw71_0 km_32 (th_in (hi := 59) iw71_1 (by decide)) (th_iv (iv_top _)) dX11_comes_71 (fun H locs hH hS hq1 => ?_)
        refine lv_goto (tgt := 137) hx hb dX11_comes_72 (by decide) ?_
        exact J137 H locs ls v16_2 (iv_w f71_v16_2 (by decide)) f71_v16_3 (show cinv q f v16_2.toInt (v16_3.toInt + 1) by first | assumption | (rw [ev16_2]; assumption)) (show v16_3.toInt < t by omega) hH hS (lv_sub hl [0, 1, 2, 3] rfl)
      have J71_s2_1 : ∀ (H : Heap) (locs : List Loc) (ls : Array Slot) (w71_0 : Nat) (w71_1 : Int32), T w71_0 = some 32 → IV w71_1 0 59 → IV v16_2 1 60 → IV v16_3 0 1119 → (cinv q f v16_2.toInt (v16_3.toInt + 1)) → (v16_3.toInt < t) → th_H D cT T (km q) H → va_S (th_A T [32]) s.heap H locs → lv_has ls 5 [(0, .ref a0), (1, .int y1), (2, .int v16_2), (3, .int v16_3)] → W p l e (rmk 1 22) s m [.ref a0, .int y1].toArray below meth c H locs 0 0 (MQ below (th_Q D cT T (km q) (th_R T (some (.inl (-2147483648, 2147483647)))) [32]) [.ref a0, .int y1].toArray s 0 0 (th_A T [32])) (F0 m 71 ls [.int 1, .int w71_1, .ref w71_0]) := by
        intro H locs ls w71_0 w71_1 tw71_0 iw71_1 f71_v16_2 f71_v16_3 v71_inv0 v71_inv1 hH hS hl
        have l1w71_1 := iw71_1.1; have l2w71_1 := iw71_1.2
        refine th_iast S hK hH hS ⟨32, by decide, tw71_0⟩ tw71_0 km_32 (th_in (hi := 59) iw71_1 (by decide)) (th_iv (iv_top _)) dX11_comes_71 (fun H locs hH hS hq1 => ?_)
        refine lv_goto (tgt := 137) hx hb dX11_comes_72 (by decide) ?_
        exact J137 H locs ls v16_2 (iv_w f71_v16_2 (by decide)) f71_v16_3 (show cinv q f v16_2.toInt (v16_3.toInt + 1) by first | assumption | (rw [ev16_2]; assumption)) (show v16_3.toInt < t by omega) hH hS (lv_sub hl [0, 1, 2, 3] rfl)
      have l1v16_2 := iv16_2.1; have l2v16_2 := iv16_2.2
      have l1v16_3 := iv16_3.1; have l2v16_3 := iv16_3.2
      refine lv_iload_n hx hb dX11_comes_16 rfl (lv_at hl 3 rfl) ?_
      refine lv_aload_n hx hb dX11_comes_17 rfl (lv_at hl 0 rfl) ?_
      refine th_get S hK hH inG11 t0 km_0 rfl 29 (by decide) gm_1259 rfl rfl dX11_comes_18 (fun v2 hv2 fv2 => ?_)
      obtain ⟨rf3, rfl, trf3⟩ := th_V.ref hv2
      refine lv_iconst (v := 5) hx hb dX11_comes_21 (by decide) ?_
      refine lv_aload_n hx hb dX11_comes_22 rfl (lv_at hl 0 rfl) ?_
      refine th_get S hK hH inG11 t0 km_0 rfl 41 (by decide) gm_1271 rfl rfl dX11_comes_23 (fun v4 hv4 fv4 => ?_)
      obtain ⟨x5, rfl, ix5⟩ := th_V.int hv4
      have kx5a : q 10 ≤ x5.toInt := ix5.1
      have kx5b : x5.toInt ≤ q 10 := ix5.2
      have ix5 : IV x5 0 1 := iv_w ix5 (qkm_10 hq)
      refine lv_imul hx hb dX11_comes_26 ?_
      refine lv_topi (fun x6 ex6 => ?_)
      have ix6 : IV x6 0 5 := by rw [ex6]; exact iv_mul (iv_c (by decide) : IV 5 5 5) ix5 (by decide) (by decide)
      have ux6 : x6.toInt = (5 : Int) * x5.toInt := by rw [ex6]; exact iv_mulE (iv_corner ((iv_c (by decide) : IV 5 5 5)).1 ((iv_c (by decide) : IV 5 5 5)).2 (ix5).1 (ix5).2 (by decide))
      refine lv_iload_n hx hb dX11_comes_27 rfl (lv_at hl 1 rfl) ?_
      refine lv_iadd hx hb dX11_comes_28 ?_
      refine lv_topi (fun x7 ex7 => ?_)
      have ix7 : IV x7 0 9 := by rw [ex7]; exact iv_add ix6 j1 (by decide)
      have ux7 : x7.toInt = x6.toInt + y1.toInt := by rw [ex7]; exact iv_addE (by have z1 := (ix6).1; have z2 := (ix6).2; have z3 := (j1).1; have z4 := (j1).2; omega)
      refine th_iald S hK hH trf3 km_21 (th_in (hi := 9) ix7 (by decide)) dX11_comes_29 (fun v8 hv8 => ?_)
      obtain ⟨x9, rfl, kx9⟩ := th_eaR hv8 (th_lt (th_in (hi := 9) ix7 (by decide)))
      have ix9 := iv_top x9
      have jx9 := th_nat (hi := 9) ix7
      have hkt : x9.toInt = t := (kx9).trans ((congrArg q (by omega)).trans ht.symm)
      refine lv_icmp_ge (tgt := 143) hx hb dX11_comes_30 (by decide) (fun c10 => ?_) (fun c10 => ?_)
      · skip
        have rlc10 : x9.toInt ≤ v16_3.toInt := iv_le c10
        have ir11 : IV x9 (-2147483648) 1120 := iv_vL ix9 iv16_3 (iv_le c10) (by decide)
        have ir11a := ir11.1; have ir11b := ir11.2
        refine lv_aload_n hx hb dX11_comes_143 rfl (lv_at hl 0 rfl) ?_
        refine th_get S hK hH inG11 t0 km_0 rfl 40 (by decide) gm_1270 rfl rfl dX11_comes_144 (fun v12 hv12 fv12 => ?_)
        obtain ⟨rf13, rfl, trf13⟩ := th_V.ref hv12
        refine lv_iconst (v := 0) hx hb dX11_comes_147 (by decide) ?_
        refine th_iald S hK hH trf13 km_32 (th_in (hi := 0) (iv_c (by decide) : IV 0 0 0) (by decide)) dX11_comes_148 (fun v14 hv14 => ?_)
        obtain ⟨x15, rfl, ix15⟩ := th_V.int hv14
        exact th_iret S hK hH hS hr hlocks (th_R.i ix15) dX11_comes_149
      · skip
        have rlc10 : v16_3.toInt < x9.toInt := iv_nle c10
        have ir16 : IV x9 1 2147483647 := iv_uR iv16_3 ix9 (iv_nle c10) (by decide)
        have ir16a := ir16.1; have ir16b := ir16.2
        have ir17 : IV v16_3 0 1119 := ⟨by omega, by omega⟩
        have ir17a := ir17.1; have ir17b := ir17.2
        refine lv_aload_n hx hb dX11_comes_33 rfl (lv_at hl 0 rfl) ?_
        refine th_get S hK hH inG11 t0 km_0 rfl 36 (by decide) gm_1266 rfl rfl dX11_comes_34 (fun v18 hv18 fv18 => ?_)
        obtain ⟨rf19, rfl, trf19⟩ := th_V.ref hv18
        refine lv_iload_n hx hb dX11_comes_37 rfl (lv_at hl 3 rfl) ?_
        refine th_iald S hK hH trf19 km_28 (th_in (hi := 1119) ir17 (by decide)) dX11_comes_38 (fun v20 hv20 => ?_)
        obtain ⟨x21, rfl, kx21⟩ := th_eaR hv20 (th_lt (th_in (hi := 1119) ir17 (by decide)))
        have ix21 := iv_top x21
        have jx21 := th_nat (hi := 1119) ir17
        refine lv_istore (lv' := [(4, .int x21), (0, .ref a0), (1, .int y1), (2, .int v16_2), (3, .int v16_3)]) hx hb dX11_comes_39 hl (by decide) rfl (fun ls hl => ?_)
        have hc := cstep hg1 v16_inv0 (show v16_3.toInt < t by omega) hg4 ((kx21).trans (congrArg q (show 1000 + v16_3.toNatClampNeg = 1000 + v16_3.toInt.toNat by omega)))
        refine lv_iload hx hb dX11_comes_41 (lv_at hl 0 rfl) ?_
        refine lv_bipush (v := 126) hx hb dX11_comes_43 (by decide) ?_
        refine lv_icmp_ne (tgt := 75) hx hb dX11_comes_45 (by decide) (fun c22 => ?_) (fun c22 => ?_)
        · skip
          have rlc22 : x21.toInt ≠ (126 : Int) := iv_ne c22
          refine lv_iload hx hb dX11_comes_75 (lv_at hl 0 rfl) ?_
          refine th_callSp (n := 1) (As := [.int x21]) S hK hH hS (th_A.sub (by decide)) (m_X11_isLetter l D cT T q hT hq (x21) ix21) gm_1452 gm_1450 gm_1451 gm_124 (by decide +kernel) ⟨rfl, rfl, Nat.le_of_ble_eq_true rfl, Nat.le_of_ble_eq_true rfl⟩ rfl hl.1 rfl (Nat.le_of_ble_eq_true rfl) dX11_comes_77 ⟨Nat.zero_le _, Nat.zero_le _⟩ (fun x23 H locs ix23 ox23 hH hS hF1 => ?_)
          obtain ⟨ox23_0, ox23_1⟩ := ox23
          have ox23_0 : x23.toInt ≠ 0 → 97 ≤ x21.toInt ∧ x21.toInt ≤ 122 := ox23_0
          have ox23_1 : x23.toInt = 0 → x21.toInt < 97 ∨ 122 < x21.toInt := ox23_1
          refine lv_if_eq (tgt := 107) hx hb dX11_comes_80 (by decide) (fun c24 => ?_) (fun c24 => ?_)
          · skip
            have rlc24 : x23.toInt = (0 : Int) := congrArg Int32.toInt c24
            have ir25 : IV x23 0 0 := iv_eL c24 (iv_c (by decide) : IV 0 0 0)
            have ir25a := ir25.1; have ir25b := ir25.2
            have hd := hc.2.2 (by omega) (by omega)
            have hd1 := hd.1; have hd2 := hd.2
            have ir26 : IV v16_2 2 60 := ⟨by omega, by omega⟩
            have ir26a := ir26.1; have ir26b := ir26.2
            refine th_iinc S dX11_comes_107 hl (k := 3) rfl (by decide) ir26 (by decide) (fun x27 ls ex27 ix27 hl => ?_)
            have hl : lv_has ls 5 [(2, .int x27), (4, .int x21), (0, .ref a0), (1, .int y1), (3, .int v16_3)] := hl
            have ix27 : IV x27 1 59 := ix27
            refine lv_aload_n hx hb dX11_comes_110 rfl (lv_at hl 2 rfl) ?_
            refine th_get S hK hH inG11 t0 km_0 rfl 40 (by decide) gm_1270 rfl rfl dX11_comes_111 (fun v28 hv28 fv28 => ?_)
            obtain ⟨rf29, rfl, trf29⟩ := th_V.ref hv28
            refine lv_iload_n hx hb dX11_comes_114 rfl (lv_at hl 0 rfl) ?_
            refine lv_iconst (v := 1) hx hb dX11_comes_115 (by decide) ?_
            refine lv_isub hx hb dX11_comes_116 ?_
            refine lv_topi (fun x30 ex30 => ?_)
            have ix30 : IV x30 0 58 := by rw [ex30]; exact iv_sub ix27 (iv_c (by decide) : IV 1 1 1) (by decide)
            have ux30 : x30.toInt = x27.toInt - (1 : Int) := by rw [ex30]; exact iv_subE (by have z1 := (ix27).1; have z2 := (ix27).2; have z3 := ((iv_c (by decide) : IV 1 1 1)).1; have z4 := ((iv_c (by decide) : IV 1 1 1)).2; omega)
            refine lv_iload hx hb dX11_comes_117 (lv_at hl 1 rfl) ?_
            refine lv_aload_n hx hb dX11_comes_119 rfl (lv_at hl 2 rfl) ?_
            refine th_getK S hK fv28 inG11 rfl (by decide) gm_1270 rfl dX11_comes_120 ?_
            refine lv_iload_n hx hb dX11_comes_123 rfl (lv_at hl 0 rfl) ?_
            refine lv_iconst (v := 1) hx hb dX11_comes_124 (by decide) ?_
            refine lv_isub hx hb dX11_comes_125 ?_
            refine lv_topi (fun x32 ex32 => ?_)
            have zx32 : x30 = x32 := ex30.trans ex32.symm
            subst zx32
            refine th_iald S hK hH trf29 km_32 (th_in (hi := 58) ix30 (by decide)) dX11_comes_126 (fun v33 hv33 => ?_)
            obtain ⟨x34, rfl, ix34⟩ := th_V.int hv33
            refine lv_aload_n hx hb dX11_comes_127 rfl (lv_at hl 2 rfl) ?_
            refine th_getK S hK fv28 inG11 rfl (by decide) gm_1270 rfl dX11_comes_128 ?_
            refine lv_iload_n hx hb dX11_comes_131 rfl (lv_at hl 0 rfl) ?_
            refine th_iald S hK hH trf29 km_32 (th_in (hi := 59) (iv_w ix27 (by decide)) (by decide)) dX11_comes_132 (fun v36 hv36 => ?_)
            obtain ⟨x37, rfl, ix37⟩ := th_V.int hv36
            refine th_callSi (n := 3) (As := [.int x21, .int x34, .int x37]) S hK hH hS (th_A.sub (by decide)) (m_X11_two l D cT T q hT hq (x21) ix21 (x34) ix34 (x37) ix37) gm_1644 gm_1642 gm_1643 gm_124 (by decide +kernel) ⟨rfl, rfl, Nat.le_of_ble_eq_true rfl, Nat.le_of_ble_eq_true rfl⟩ rfl hl.1 rfl (Nat.le_of_ble_eq_true rfl) dX11_comes_133 ⟨Nat.zero_le _, Nat.zero_le _⟩ (fun x38 H locs ix38 hH hS hF1 => ?_)
            have f39 := fv28.kept (hF1 _ fv28.lt (th_off t0 (by decide)))
            refine th_iast S hK hH hS ⟨32, by decide, trf29⟩ trf29 km_32 (th_in (hi := 58) ix30 (by decide)) (th_iv ix38) dX11_comes_136 (fun H locs hH hS hq1 => ?_)
            have f40 := f39.kept (hq1 _ (th_ne t0 trf29 (by decide)))
            exact J137 H locs ls x27 (iv_w ix27 (by decide)) ir17 (show cinv q f x27.toInt (v16_3.toInt + 1) by first | assumption | (rw [ex27]; assumption)) (show v16_3.toInt < t by omega) hH hS (lv_sub hl [2, 3, 0, 4] rfl)
          · skip
            have rlc24 : x23.toInt ≠ (0 : Int) := iv_ne c24
            have ir41 : IV x23 1 1 := iv_cutL ix23 (iv_c (by decide) : IV 0 0 0) c24 (by decide)
            have ir41a := ir41.1; have ir41b := ir41.2
            have hd := hc.2.1 (by omega) (by omega) (by omega)
            have hd1 := hd.1; have hd2 := hd.2
            have ir42 : IV v16_2 0 59 := ⟨by omega, by omega⟩
            have ir42a := ir42.1; have ir42b := ir42.2
            refine lv_aload_n hx hb dX11_comes_83 rfl (lv_at hl 1 rfl) ?_
            refine th_get S hK hH inG11 t0 km_0 rfl 40 (by decide) gm_1270 rfl rfl dX11_comes_84 (fun v43 hv43 fv43 => ?_)
            obtain ⟨rf44, rfl, trf44⟩ := th_V.ref hv43
            refine lv_iload_n hx hb dX11_comes_87 rfl (lv_at hl 3 rfl) ?_
            refine lv_aload_n hx hb dX11_comes_88 rfl (lv_at hl 1 rfl) ?_
            refine lv_iload hx hb dX11_comes_89 (lv_at hl 0 rfl) ?_
            refine lv_aload_n hx hb dX11_comes_91 rfl (lv_at hl 1 rfl) ?_
            refine th_get S hK hH inG11 t0 km_0 rfl 37 (by decide) gm_1267 rfl rfl dX11_comes_92 (fun v45 hv45 fv45 => ?_)
            obtain ⟨rf46, rfl, trf46⟩ := th_V.ref hv45
            refine lv_iload_n hx hb dX11_comes_95 rfl (lv_at hl 4 rfl) ?_
            refine th_iald S hK hH trf46 km_29 (th_in (hi := 1119) ir17 (by decide)) dX11_comes_96 (fun v47 hv47 => ?_)
            obtain ⟨x48, rfl, ix48⟩ := th_V.int hv47
            refine th_callVi (n := 2) (As := [.int x21, .int x48]) S hK hH hS (th_A.sub (by decide)) (m_X11_asked l D cT T q hT hq a0 t0 (x21) ix21 (x48) ix48) gm_1641 gm_1638 gm_1640 gm_83 gm_124 (by decide +kernel) ⟨rfl, rfl, Nat.le_of_ble_eq_true rfl, Nat.le_of_ble_eq_true rfl⟩ t0 km_0 rfl rfl hl.1 rfl (Nat.le_of_ble_eq_true rfl) dX11_comes_97 ⟨Nat.zero_le _, Nat.zero_le _⟩ (fun x49 H locs ix49 hH hS hF1 => ?_)
            have f50 := fv43.kept (hF1 _ fv43.lt (th_off t0 (by decide)))
            refine th_iast S hK hH hS ⟨32, by decide, trf44⟩ trf44 km_32 (th_in (hi := 59) ir42 (by decide)) (th_iv ix49) dX11_comes_100 (fun H locs hH hS hq1 => ?_)
            have f51 := f50.kept (hq1 _ (th_ne t0 trf44 (by decide)))
            refine th_iinc S dX11_comes_101 hl (k := 3) rfl (by decide) ir42 (by decide) (fun x52 ls ex52 ix52 hl => ?_)
            have hl : lv_has ls 5 [(2, .int x52), (4, .int x21), (0, .ref a0), (1, .int y1), (3, .int v16_3)] := hl
            have ix52 : IV x52 1 60 := ix52
            refine lv_goto (tgt := 137) hx hb dX11_comes_104 (by decide) ?_
            exact J137 H locs ls x52 (iv_w ix52 (by decide)) ir17 (show cinv q f x52.toInt (v16_3.toInt + 1) by first | assumption | (rw [ex52]; assumption)) (show v16_3.toInt < t by omega) hH hS (lv_sub hl [2, 3, 0, 4] rfl)
        · skip
          have rlc22 : x21.toInt = (126 : Int) := congrArg Int32.toInt c22
          have ir53 : IV x21 126 126 := iv_eL c22 (iv_c (by decide) : IV 126 126 126)
          have ir53a := ir53.1; have ir53b := ir53.2
          have hd := hc.1 (by omega)
          have hd1 := hd.1; have hd2 := hd.2
          have ir54 : IV v16_2 1 60 := ⟨by omega, by omega⟩
          have ir54a := ir54.1; have ir54b := ir54.2
          refine lv_aload_n hx hb dX11_comes_48 rfl (lv_at hl 1 rfl) ?_
          refine th_get S hK hH inG11 t0 km_0 rfl 40 (by decide) gm_1270 rfl rfl dX11_comes_49 (fun v55 hv55 fv55 => ?_)
          obtain ⟨rf56, rfl, trf56⟩ := th_V.ref hv55
          refine lv_iload_n hx hb dX11_comes_52 rfl (lv_at hl 3 rfl) ?_
          refine lv_iconst (v := 1) hx hb dX11_comes_53 (by decide) ?_
          refine lv_isub hx hb dX11_comes_54 ?_
          refine lv_topi (fun x57 ex57 => ?_)
          have ix57 : IV x57 0 59 := by rw [ex57]; exact iv_sub ir54 (iv_c (by decide) : IV 1 1 1) (by decide)
          have ux57 : x57.toInt = v16_2.toInt - (1 : Int) := by rw [ex57]; exact iv_subE (by have z1 := (ir54).1; have z2 := (ir54).2; have z3 := ((iv_c (by decide) : IV 1 1 1)).1; have z4 := ((iv_c (by decide) : IV 1 1 1)).2; omega)
          refine lv_aload_n hx hb dX11_comes_55 rfl (lv_at hl 1 rfl) ?_
          refine th_getK S hK fv55 inG11 rfl (by decide) gm_1270 rfl dX11_comes_56 ?_
          refine lv_iload_n hx hb dX11_comes_59 rfl (lv_at hl 3 rfl) ?_
          refine lv_iconst (v := 1) hx hb dX11_comes_60 (by decide) ?_
          refine lv_isub hx hb dX11_comes_61 ?_
          refine lv_topi (fun x59 ex59 => ?_)
          have zx59 : x57 = x59 := ex57.trans ex59.symm
          subst zx59
          refine th_iald S hK hH trf56 km_32 (th_in (hi := 59) ix57 (by decide)) dX11_comes_62 (fun v60 hv60 => ?_)
          obtain ⟨x61, rfl, ix61⟩ := th_V.int hv60
          refine lv_if_ne (tgt := 70) hx hb dX11_comes_63 (by decide) (fun c62 => ?_) (fun c62 => ?_)
          · skip
            have rlc62 : x61.toInt ≠ (0 : Int) := iv_ne c62
            refine lv_iconst (v := 0) hx hb dX11_comes_70 (by decide) ?_
            exact J71_s2_0 H locs ls rf56 x57 trf56 ix57 ir54 ir17 (show cinv q f v16_2.toInt (v16_3.toInt + 1) by first | assumption | (rw [ev16_2]; assumption)) (show v16_3.toInt < t by omega) hH hS (lv_sub hl [1, 2, 3, 4] rfl)
          · skip
            have rlc62 : x61.toInt = (0 : Int) := congrArg Int32.toInt c62
            have ir63 : IV x61 0 0 := iv_eL c62 (iv_c (by decide) : IV 0 0 0)
            have ir63a := ir63.1; have ir63b := ir63.2
            refine lv_iconst (v := 1) hx hb dX11_comes_66 (by decide) ?_
            refine lv_goto (tgt := 71) hx hb dX11_comes_67 (by decide) ?_
            exact J71_s2_1 H locs ls rf56 x57 trf56 ix57 ir54 ir17 (show cinv q f v16_2.toInt (v16_3.toInt + 1) by first | assumption | (rw [ev16_2]; assumption)) (show v16_3.toInt < t by omega) hH hS (lv_sub hl [1, 2, 3, 4] rfl)
  have J0 : ∀ (H : Heap) (locs : List Loc) (ls : Array Slot), th_H D cT T (km q) H → va_S (th_A T [32]) s.heap H locs → lv_has ls 5 [(0, .ref a0), (1, .int y1)] → W p l e (rmk 1 22) s m [.ref a0, .int y1].toArray below meth c H locs 0 0 (MQ below (th_Q D cT T (km q) (th_R T (some (.inl (-2147483648, 2147483647)))) [32]) [.ref a0, .int y1].toArray s 0 0 (th_A T [32])) (F0 m 0 ls []) := by
    intro H locs ls hH hS hl
    refine lv_iconst (v := 0) hx hb dX11_comes_0 (by decide) ?_
    refine lv_istore_n (lv' := [(2, .int 0), (0, .ref a0), (1, .int y1)]) hx hb dX11_comes_1 rfl hl (by decide) rfl (fun ls hl => ?_)
    refine lv_aload_n hx hb dX11_comes_2 rfl (lv_at hl 1 rfl) ?_
    refine th_get S hK hH inG11 t0 km_0 rfl 28 (by decide) gm_1258 rfl rfl dX11_comes_3 (fun v64 hv64 fv64 => ?_)
    obtain ⟨rf65, rfl, trf65⟩ := th_V.ref hv64
    refine lv_iconst (v := 5) hx hb dX11_comes_6 (by decide) ?_
    refine lv_aload_n hx hb dX11_comes_7 rfl (lv_at hl 1 rfl) ?_
    refine th_get S hK hH inG11 t0 km_0 rfl 41 (by decide) gm_1271 rfl rfl dX11_comes_8 (fun v66 hv66 fv66 => ?_)
    obtain ⟨x67, rfl, ix67⟩ := th_V.int hv66
    have kx67a : q 10 ≤ x67.toInt := ix67.1
    have kx67b : x67.toInt ≤ q 10 := ix67.2
    have ix67 : IV x67 0 1 := iv_w ix67 (qkm_10 hq)
    refine lv_imul hx hb dX11_comes_11 ?_
    refine lv_topi (fun x68 ex68 => ?_)
    have ix68 : IV x68 0 5 := by rw [ex68]; exact iv_mul (iv_c (by decide) : IV 5 5 5) ix67 (by decide) (by decide)
    have ux68 : x68.toInt = (5 : Int) * x67.toInt := by rw [ex68]; exact iv_mulE (iv_corner ((iv_c (by decide) : IV 5 5 5)).1 ((iv_c (by decide) : IV 5 5 5)).2 (ix67).1 (ix67).2 (by decide))
    refine lv_iload_n hx hb dX11_comes_12 rfl (lv_at hl 2 rfl) ?_
    refine lv_iadd hx hb dX11_comes_13 ?_
    refine lv_topi (fun x69 ex69 => ?_)
    have ix69 : IV x69 0 9 := by rw [ex69]; exact iv_add ix68 j1 (by decide)
    have ux69 : x69.toInt = x68.toInt + y1.toInt := by rw [ex69]; exact iv_addE (by have z1 := (ix68).1; have z2 := (ix68).2; have z3 := (j1).1; have z4 := (j1).2; omega)
    refine th_iald S hK hH trf65 km_20 (th_in (hi := 9) ix69 (by decide)) dX11_comes_14 (fun v70 hv70 => ?_)
    obtain ⟨x71, rfl, kx71⟩ := th_eaR hv70 (th_lt (th_in (hi := 9) ix69 (by decide)))
    have ix71 := iv_top x71
    have jx71 := th_nat (hi := 9) ix69
    have hkf : x71.toInt = f := (kx71).trans ((congrArg q (by omega)).trans hf.symm)
    refine lv_istore_n (lv' := [(3, .int x71), (2, .int 0), (0, .ref a0), (1, .int y1)]) hx hb dX11_comes_15 rfl hl (by decide) rfl (fun ls hl => ?_)
    exact J16 ((1120 + 1 - Int32.toInt x71).toNat + 1) H locs ls 0 x71 (iv_w (iv_c (by decide) : IV 0 0 0) (by decide)) (show IV x71 0 1120 by have z1 := (ix71).1; have z2 := (ix71).2; exact ⟨by omega, by omega⟩) (show cinv q f (0 : Int) x71.toInt by first | exact cinv0 hkf | (rw [ex71]; assumption)) (show x71.toInt ≤ t by omega) hH hS (lv_sub hl [2, 3, 1, 0] rfl) (Nat.lt_succ_self _)
  exact J0 s.heap [] ls hH va_S.rf hl

set_option maxRecDepth 100000 in
theorem m_X11_fault (l : Launch) (D : va_G) (cT : Nat → ClassId) (T : Nat → Option Nat) (q : Nat → Int) (hT : tokm T) (hq : qkm q) (a0 : Nat) (t0 : T a0 = some 0) (y1 : Int32) (j1 : IV y1 (-2147483648) 2147483647) : th_Met l D cT T (km q) yX11_fault cX11_fault 2 (some .int) (rmk 0 0) [.ref a0, .int y1] (th_R T (some (.inl (-2147483648, 2147483647)))) [] := by
  refine th_start (by decide) (Nat.le_of_ble_eq_true rfl) ?_
  intro p e s m below meth c ls S hK hH hr hlocks hnm hl
  have hx := S.1
  have hb := S.2.1
  have hl : lv_has ls 2 [(0, .ref a0), (1, .int y1)] := hl
  have J24 : ∀ (H : Heap) (locs : List Loc) (ls : Array Slot) (w24_0 : Int32), IV w24_0 (-2147483648) 2147483647 → th_H D cT T (km q) H → va_S (th_A T []) s.heap H locs → lv_has ls 2 [] → W p l e (rmk 0 0) s m [.ref a0, .int y1].toArray below meth c H locs 0 0 (MQ below (th_Q D cT T (km q) (th_R T (some (.inl (-2147483648, 2147483647)))) []) [.ref a0, .int y1].toArray s 0 0 (th_A T [])) (F0 m 24 ls [.int w24_0]) := by
    intro H locs ls w24_0 iw24_0 hH hS hl
    exact th_iret S hK hH hS hr hlocks (th_R.i iw24_0) dX11_fault_24
  have J24_s0_m1 : ∀ (H : Heap) (locs : List Loc) (ls : Array Slot), th_H D cT T (km q) H → va_S (th_A T []) s.heap H locs → lv_has ls 2 [] → W p l e (rmk 0 0) s m [.ref a0, .int y1].toArray below meth c H locs 0 0 (MQ below (th_Q D cT T (km q) (th_R T (some (.inl (-2147483648, 2147483647)))) []) [.ref a0, .int y1].toArray s 0 0 (th_A T [])) (F0 m 24 ls [.int (-1)]) := by
    intro H locs ls hH hS hl
    exact th_iret S hK hH hS hr hlocks (th_R.i (iv_top _)) dX11_fault_24
  have J0 : ∀ (H : Heap) (locs : List Loc) (ls : Array Slot), th_H D cT T (km q) H → va_S (th_A T []) s.heap H locs → lv_has ls 2 [(0, .ref a0), (1, .int y1)] → W p l e (rmk 0 0) s m [.ref a0, .int y1].toArray below meth c H locs 0 0 (MQ below (th_Q D cT T (km q) (th_R T (some (.inl (-2147483648, 2147483647)))) []) [.ref a0, .int y1].toArray s 0 0 (th_A T [])) (F0 m 0 ls []) := by
    intro H locs ls hH hS hl
    refine lv_iload_n hx hb dX11_fault_0 rfl (lv_at hl 1 rfl) ?_
    refine lv_if_ne (tgt := 11) hx hb dX11_fault_1 (by decide) (fun c1 => ?_) (fun c1 => ?_)
    · skip
      have rlc1 : y1.toInt ≠ (0 : Int) := iv_ne c1
      refine lv_iload_n hx hb dX11_fault_11 rfl (lv_at hl 1 rfl) ?_
      refine lv_iconst (v := 1) hx hb dX11_fault_12 (by decide) ?_
      refine lv_icmp_ne (tgt := 23) hx hb dX11_fault_13 (by decide) (fun c2 => ?_) (fun c2 => ?_)
      · skip
        have rlc2 : y1.toInt ≠ (1 : Int) := iv_ne c2
        refine lv_iconst (v := (-1)) hx hb dX11_fault_23 (by decide) ?_
        exact J24_s0_m1 H locs ls  hH hS (lv_sub hl [] rfl)
      · skip
        have rlc2 : y1.toInt = (1 : Int) := congrArg Int32.toInt c2
        have ir3 : IV y1 1 1 := iv_eL c2 (iv_c (by decide) : IV 1 1 1)
        have ir3a := ir3.1; have ir3b := ir3.2
        refine lv_aload_n hx hb dX11_fault_16 rfl (lv_at hl 0 rfl) ?_
        refine th_get S hK hH inG11 t0 km_0 rfl 5 (by decide) gm_1235 rfl rfl dX11_fault_17 (fun v4 hv4 fv4 => ?_)
        obtain ⟨x5, rfl, ix5⟩ := th_V.int hv4
        refine lv_goto (tgt := 24) hx hb dX11_fault_20 (by decide) ?_
        exact J24 H locs ls x5 ix5 hH hS (lv_sub hl [] rfl)
    · skip
      have rlc1 : y1.toInt = (0 : Int) := congrArg Int32.toInt c1
      have ir6 : IV y1 0 0 := iv_eL c1 (iv_c (by decide) : IV 0 0 0)
      have ir6a := ir6.1; have ir6b := ir6.2
      refine lv_aload_n hx hb dX11_fault_4 rfl (lv_at hl 0 rfl) ?_
      refine th_get S hK hH inG11 t0 km_0 rfl 4 (by decide) gm_1234 rfl rfl dX11_fault_5 (fun v7 hv7 fv7 => ?_)
      obtain ⟨x8, rfl, ix8⟩ := th_V.int hv7
      have kx8a : q 30 ≤ x8.toInt := ix8.1
      have kx8b : x8.toInt ≤ q 30 := ix8.2
      have ix8 : IV x8 0 5 := iv_w ix8 (qkm_30 hq)
      refine lv_goto (tgt := 24) hx hb dX11_fault_8 (by decide) ?_
      exact J24 H locs ls x8 (iv_top _) hH hS (lv_sub hl [] rfl)
  exact J0 s.heap [] ls hH va_S.rf hl

set_option maxRecDepth 100000 in
theorem m_X11_isIn (l : Launch) (D : va_G) (cT : Nat → ClassId) (T : Nat → Option Nat) (q : Nat → Int) (hT : tokm T) (hq : qkm q) (y0 : Int32) (j0 : IV y0 (-2147483648) 2147483647) (y1 : Int32) (j1 : IV y1 (-2147483648) 2147483647) (y2 : Int32) (j2 : IV y2 (-2147483648) 2147483647) : th_Met l D cT T (km q) yX11_isIn cX11_isIn 3 (some .boolean) (rmk 0 0) [.int y0, .int y1, .int y2] (th_RP 0 1 (fun r => (r.toInt ≠ 0 → y1.toInt ≤ y0.toInt ∧ y0.toInt ≤ y2.toInt) ∧ (r.toInt = 0 → y0.toInt < y1.toInt ∨ y2.toInt < y0.toInt))) [] := by
  refine th_start (by decide) (Nat.le_of_ble_eq_true rfl) ?_
  intro p e s m below meth c ls S hK hH hr hlocks hnm hl
  have hx := S.1
  have hb := S.2.1
  have hl : lv_has ls 3 [(0, .int y0), (1, .int y1), (2, .int y2)] := hl
  have J15_s0_0 : ∀ (H : Heap) (locs : List Loc) (ls : Array Slot), ((0 : Int) ≠ 0 → y1.toInt ≤ y0.toInt ∧ y0.toInt ≤ y2.toInt) → ((0 : Int) = 0 → y0.toInt < y1.toInt ∨ y2.toInt < y0.toInt) → th_H D cT T (km q) H → va_S (th_A T []) s.heap H locs → lv_has ls 3 [] → W p l e (rmk 0 0) s m [.int y0, .int y1, .int y2].toArray below meth c H locs 0 0 (MQ below (th_Q D cT T (km q) (th_RP 0 1 (fun r => (r.toInt ≠ 0 → y1.toInt ≤ y0.toInt ∧ y0.toInt ≤ y2.toInt) ∧ (r.toInt = 0 → y0.toInt < y1.toInt ∨ y2.toInt < y0.toInt))) []) [.int y0, .int y1, .int y2].toArray s 0 0 (th_A T [])) (F0 m 15 ls [.int 0]) := by
    intro H locs ls v15_inv0 v15_inv1 hH hS hl
    exact th_zret S hK hH hS hr hlocks (iv_w (iv_c (by decide) : IV 0 0 0) (by decide)) (th_RP.i (iv_w (iv_c (by decide) : IV 0 0 0) (by decide)) ⟨(show (0 : Int) ≠ 0 → y1.toInt ≤ y0.toInt ∧ y0.toInt ≤ y2.toInt by first | assumption | (first | omega | (intro z; omega))), (show (0 : Int) = 0 → y0.toInt < y1.toInt ∨ y2.toInt < y0.toInt by first | assumption | (first | omega | (intro z; omega)))⟩) dX11_isIn_15
  have J15_s0_1 : ∀ (H : Heap) (locs : List Loc) (ls : Array Slot), ((1 : Int) ≠ 0 → y1.toInt ≤ y0.toInt ∧ y0.toInt ≤ y2.toInt) → ((1 : Int) = 0 → y0.toInt < y1.toInt ∨ y2.toInt < y0.toInt) → th_H D cT T (km q) H → va_S (th_A T []) s.heap H locs → lv_has ls 3 [] → W p l e (rmk 0 0) s m [.int y0, .int y1, .int y2].toArray below meth c H locs 0 0 (MQ below (th_Q D cT T (km q) (th_RP 0 1 (fun r => (r.toInt ≠ 0 → y1.toInt ≤ y0.toInt ∧ y0.toInt ≤ y2.toInt) ∧ (r.toInt = 0 → y0.toInt < y1.toInt ∨ y2.toInt < y0.toInt))) []) [.int y0, .int y1, .int y2].toArray s 0 0 (th_A T [])) (F0 m 15 ls [.int 1]) := by
    intro H locs ls v15_inv0 v15_inv1 hH hS hl
    exact th_zret S hK hH hS hr hlocks (iv_w (iv_c (by decide) : IV 1 1 1) (by decide)) (th_RP.i (iv_w (iv_c (by decide) : IV 1 1 1) (by decide)) ⟨(show (1 : Int) ≠ 0 → y1.toInt ≤ y0.toInt ∧ y0.toInt ≤ y2.toInt by first | assumption | (first | omega | (intro z; omega))), (show (1 : Int) = 0 → y0.toInt < y1.toInt ∨ y2.toInt < y0.toInt by first | assumption | (first | omega | (intro z; omega)))⟩) dX11_isIn_15
  have J14 : ∀ (H : Heap) (locs : List Loc) (ls : Array Slot), (y0.toInt < y1.toInt ∨ y2.toInt < y0.toInt) → th_H D cT T (km q) H → va_S (th_A T []) s.heap H locs → lv_has ls 3 [] → W p l e (rmk 0 0) s m [.int y0, .int y1, .int y2].toArray below meth c H locs 0 0 (MQ below (th_Q D cT T (km q) (th_RP 0 1 (fun r => (r.toInt ≠ 0 → y1.toInt ≤ y0.toInt ∧ y0.toInt ≤ y2.toInt) ∧ (r.toInt = 0 → y0.toInt < y1.toInt ∨ y2.toInt < y0.toInt))) []) [.int y0, .int y1, .int y2].toArray s 0 0 (th_A T [])) (F0 m 14 ls []) := by
    intro H locs ls v14_inv0 hH hS hl
    refine lv_iconst (v := 0) hx hb dX11_isIn_14 (by decide) ?_
    exact J15_s0_0 H locs ls (show (0 : Int) ≠ 0 → y1.toInt ≤ y0.toInt ∧ y0.toInt ≤ y2.toInt by first | omega | (intro z; omega)) (show (0 : Int) = 0 → y0.toInt < y1.toInt ∨ y2.toInt < y0.toInt by first | omega | (intro z; omega)) hH hS (lv_sub hl [] rfl)
  have J0 : ∀ (H : Heap) (locs : List Loc) (ls : Array Slot), th_H D cT T (km q) H → va_S (th_A T []) s.heap H locs → lv_has ls 3 [(0, .int y0), (1, .int y1), (2, .int y2)] → W p l e (rmk 0 0) s m [.int y0, .int y1, .int y2].toArray below meth c H locs 0 0 (MQ below (th_Q D cT T (km q) (th_RP 0 1 (fun r => (r.toInt ≠ 0 → y1.toInt ≤ y0.toInt ∧ y0.toInt ≤ y2.toInt) ∧ (r.toInt = 0 → y0.toInt < y1.toInt ∨ y2.toInt < y0.toInt))) []) [.int y0, .int y1, .int y2].toArray s 0 0 (th_A T [])) (F0 m 0 ls []) := by
    intro H locs ls hH hS hl
    refine lv_iload_n hx hb dX11_isIn_0 rfl (lv_at hl 0 rfl) ?_
    refine lv_iload_n hx hb dX11_isIn_1 rfl (lv_at hl 1 rfl) ?_
    refine lv_icmp_lt (tgt := 14) hx hb dX11_isIn_2 (by decide) (fun c1 => ?_) (fun c1 => ?_)
    · skip
      have rlc1 : y0.toInt < y1.toInt := iv_lt c1
      have ir2 : IV y0 (-2147483648) 2147483646 := iv_uL j0 j1 (iv_lt c1) (by decide)
      have ir2a := ir2.1; have ir2b := ir2.2
      have ir3 : IV y1 (-2147483647) 2147483647 := iv_uR j0 j1 (iv_lt c1) (by decide)
      have ir3a := ir3.1; have ir3b := ir3.2
      exact J14 H locs ls (show y0.toInt < y1.toInt ∨ y2.toInt < y0.toInt by omega) hH hS (lv_sub hl [] rfl)
    · skip
      have rlc1 : y1.toInt ≤ y0.toInt := iv_nlt c1
      refine lv_iload_n hx hb dX11_isIn_5 rfl (lv_at hl 0 rfl) ?_
      refine lv_iload_n hx hb dX11_isIn_6 rfl (lv_at hl 2 rfl) ?_
      refine lv_icmp_gt (tgt := 14) hx hb dX11_isIn_7 (by decide) (fun c4 => ?_) (fun c4 => ?_)
      · skip
        have rlc4 : y2.toInt < y0.toInt := iv_lt c4
        have ir5 : IV y2 (-2147483648) 2147483646 := iv_uL j2 j0 (iv_lt c4) (by decide)
        have ir5a := ir5.1; have ir5b := ir5.2
        have ir6 : IV y0 (-2147483647) 2147483647 := iv_uR j2 j0 (iv_lt c4) (by decide)
        have ir6a := ir6.1; have ir6b := ir6.2
        exact J14 H locs ls (show y0.toInt < y1.toInt ∨ y2.toInt < y0.toInt by omega) hH hS (lv_sub hl [] rfl)
      · skip
        have rlc4 : y0.toInt ≤ y2.toInt := iv_nlt c4
        refine lv_iconst (v := 1) hx hb dX11_isIn_10 (by decide) ?_
        refine lv_goto (tgt := 15) hx hb dX11_isIn_11 (by decide) ?_
        exact J15_s0_1 H locs ls (show (1 : Int) ≠ 0 → y1.toInt ≤ y0.toInt ∧ y0.toInt ≤ y2.toInt by first | omega | (intro z; omega)) (show (1 : Int) = 0 → y0.toInt < y1.toInt ∨ y2.toInt < y0.toInt by first | omega | (intro z; omega)) hH hS (lv_sub hl [] rfl)
  exact J0 s.heap [] ls hH va_S.rf hl

set_option maxRecDepth 100000 in
theorem m_X11_has (l : Launch) (D : va_G) (cT : Nat → ClassId) (T : Nat → Option Nat) (q : Nat → Int) (hT : tokm T) (hq : qkm q) (y0 : Int32) (j0 : IV y0 (-2147483648) 2147483647) (y1 : Int32) (j1 : IV y1 (-2147483648) 2147483647) : th_Met l D cT T (km q) yX11_has cX11_has 2 (some .boolean) (rmk 0 0) [.int y0, .int y1] (th_RP 0 1 (fun r => (r.toInt = 0 → ¬ ((y0 >>> (y1 &&& 31)) &&& 1 = 1)))) [] := by
  refine th_start (by decide) (Nat.le_of_ble_eq_true rfl) ?_
  intro p e s m below meth c ls S hK hH hr hlocks hnm hl
  have hx := S.1
  have hb := S.2.1
  have hl : lv_has ls 2 [(0, .int y0), (1, .int y1)] := hl
  have J14_s0_0 : ∀ (H : Heap) (locs : List Loc) (ls : Array Slot), ((0 : Int) = 0 → ¬ ((y0 >>> (y1 &&& 31)) &&& 1 = 1)) → th_H D cT T (km q) H → va_S (th_A T []) s.heap H locs → lv_has ls 2 [] → W p l e (rmk 0 0) s m [.int y0, .int y1].toArray below meth c H locs 0 0 (MQ below (th_Q D cT T (km q) (th_RP 0 1 (fun r => (r.toInt = 0 → ¬ ((y0 >>> (y1 &&& 31)) &&& 1 = 1)))) []) [.int y0, .int y1].toArray s 0 0 (th_A T [])) (F0 m 14 ls [.int 0]) := by
    intro H locs ls v14_inv0 hH hS hl
    exact th_zret S hK hH hS hr hlocks (iv_w (iv_c (by decide) : IV 0 0 0) (by decide)) (th_RP.i (iv_w (iv_c (by decide) : IV 0 0 0) (by decide)) (show (0 : Int) = 0 → ¬ ((y0 >>> (y1 &&& 31)) &&& 1 = 1) by first | assumption | (first | (intro z; exact absurd z (by decide)) | (intro _; rw [← hbit]; assumption)))) dX11_has_14
  have J14_s0_1 : ∀ (H : Heap) (locs : List Loc) (ls : Array Slot), ((1 : Int) = 0 → ¬ ((y0 >>> (y1 &&& 31)) &&& 1 = 1)) → th_H D cT T (km q) H → va_S (th_A T []) s.heap H locs → lv_has ls 2 [] → W p l e (rmk 0 0) s m [.int y0, .int y1].toArray below meth c H locs 0 0 (MQ below (th_Q D cT T (km q) (th_RP 0 1 (fun r => (r.toInt = 0 → ¬ ((y0 >>> (y1 &&& 31)) &&& 1 = 1)))) []) [.int y0, .int y1].toArray s 0 0 (th_A T [])) (F0 m 14 ls [.int 1]) := by
    intro H locs ls v14_inv0 hH hS hl
    exact th_zret S hK hH hS hr hlocks (iv_w (iv_c (by decide) : IV 1 1 1) (by decide)) (th_RP.i (iv_w (iv_c (by decide) : IV 1 1 1) (by decide)) (show (1 : Int) = 0 → ¬ ((y0 >>> (y1 &&& 31)) &&& 1 = 1) by first | assumption | (first | (intro z; exact absurd z (by decide)) | (intro _; rw [← hbit]; assumption)))) dX11_has_14
  have J0 : ∀ (H : Heap) (locs : List Loc) (ls : Array Slot), th_H D cT T (km q) H → va_S (th_A T []) s.heap H locs → lv_has ls 2 [(0, .int y0), (1, .int y1)] → W p l e (rmk 0 0) s m [.int y0, .int y1].toArray below meth c H locs 0 0 (MQ below (th_Q D cT T (km q) (th_RP 0 1 (fun r => (r.toInt = 0 → ¬ ((y0 >>> (y1 &&& 31)) &&& 1 = 1)))) []) [.int y0, .int y1].toArray s 0 0 (th_A T [])) (F0 m 0 ls []) := by
    intro H locs ls hH hS hl
    refine lv_iload_n hx hb dX11_has_0 rfl (lv_at hl 0 rfl) ?_
    refine lv_iload_n hx hb dX11_has_1 rfl (lv_at hl 1 rfl) ?_
    refine lv_ishr hx hb dX11_has_2 ?_
    refine lv_topi (fun x1 ex1 => ?_)
    have ix1 := iv_top x1
    refine lv_iconst (v := 1) hx hb dX11_has_3 (by decide) ?_
    refine lv_iand hx hb dX11_has_4 ?_
    refine lv_topi (fun x2 ex2 => ?_)
    have ix2 : IV x2 0 1 := by rw [ex2]; exact iv_and (h2 := 1) (iv_w (iv_c (by decide) : IV 1 1 1) (by decide)) (by decide)
    refine lv_iconst (v := 1) hx hb dX11_has_5 (by decide) ?_
    have hbit : x2 = (y0 >>> (y1 &&& 31)) &&& 1 := by subst_vars; rfl
    refine lv_icmp_ne (tgt := 13) hx hb dX11_has_6 (by decide) (fun c3 => ?_) (fun c3 => ?_)
    · skip
      have rlc3 : x2.toInt ≠ (1 : Int) := iv_ne c3
      have ir4 : IV x2 0 0 := iv_cutH ix2 (iv_c (by decide) : IV 1 1 1) c3 (by decide)
      have ir4a := ir4.1; have ir4b := ir4.2
      refine lv_iconst (v := 0) hx hb dX11_has_13 (by decide) ?_
      exact J14_s0_0 H locs ls (show (0 : Int) = 0 → ¬ ((y0 >>> (y1 &&& 31)) &&& 1 = 1) by first | (intro z; exact absurd z (by decide)) | (intro _; rw [← hbit]; assumption)) hH hS (lv_sub hl [] rfl)
    · skip
      have rlc3 : x2.toInt = (1 : Int) := congrArg Int32.toInt c3
      have ir5 : IV x2 1 1 := ⟨(iv_eL c3 (iv_c (by decide) : IV 1 1 1)).1, ix2.2⟩
      have ir5a := ir5.1; have ir5b := ir5.2
      refine lv_iconst (v := 1) hx hb dX11_has_9 (by decide) ?_
      refine lv_goto (tgt := 14) hx hb dX11_has_10 (by decide) ?_
      exact J14_s0_1 H locs ls (show (1 : Int) = 0 → ¬ ((y0 >>> (y1 &&& 31)) &&& 1 = 1) by first | (intro z; exact absurd z (by decide)) | (intro _; rw [← hbit]; assumption)) hH hS (lv_sub hl [] rfl)
  exact J0 s.heap [] ls hH va_S.rf hl

set_option maxRecDepth 100000 in
theorem m_X11_bitsOf (l : Launch) (D : va_G) (cT : Nat → ClassId) (T : Nat → Option Nat) (q : Nat → Int) (hT : tokm T) (hq : qkm q) (y0 : Int32) (j0 : IV y0 (-2147483648) 2147483647) : th_Met l D cT T (km q) yX11_bitsOf cX11_bitsOf 3 (some .int) (rmk 0 0) [.int y0] (th_R T (some (.inl (-2147483648, 2147483647)))) [] := by
  refine th_start (by decide) (Nat.le_of_ble_eq_true rfl) ?_
  intro p e s m below meth c ls S hK hH hr hlocks hnm hl
  have hx := S.1
  have hb := S.2.1
  have hl : lv_has ls 3 [(0, .int y0)] := hl
  have J4 : ∀ (n : Nat) (H : Heap) (locs : List Loc) (ls : Array Slot) (v4_1 : Int32) (v4_2 : Int32), IV v4_1 (-2147483648) 2147483647 → IV v4_2 (-2147483648) 2147483647 → th_H D cT T (km q) H → va_S (th_A T []) s.heap H locs → lv_has ls 3 [(1, .int v4_1), (2, .int v4_2)] → v4_2.toBitVec.toNat < n → W p l e (rmk 0 0) s m [.int y0].toArray below meth c H locs 0 0 (MQ below (th_Q D cT T (km q) (th_R T (some (.inl (-2147483648, 2147483647)))) []) [.int y0].toArray s 0 0 (th_A T [])) (F0 m 4 ls []) := by
    intro n
    induction n with
    | zero => intro H locs ls v4_1 v4_2 iv4_1 iv4_2 hH hS hl hn; exact absurd hn (Nat.not_lt_zero _)
    | succ n ih4 =>
      intro H locs ls v4_1 v4_2 iv4_1 iv4_2 hH hS hl hn4
      refine lv_iload_n hx hb dX11_bitsOf_4 rfl (lv_at hl 1 rfl) ?_
      refine lv_if_eq (tgt := 20) hx hb dX11_bitsOf_5 (by decide) (fun c1 => ?_) (fun c1 => ?_)
      · skip
        have rlc1 : v4_2.toInt = (0 : Int) := congrArg Int32.toInt c1
        have ir2 : IV v4_2 0 0 := iv_eL c1 (iv_c (by decide) : IV 0 0 0)
        have ir2a := ir2.1; have ir2b := ir2.2
        refine lv_iload_n hx hb dX11_bitsOf_20 rfl (lv_at hl 0 rfl) ?_
        exact th_iret S hK hH hS hr hlocks (th_R.i iv4_1) dX11_bitsOf_21
      · skip
        have rlc1 : v4_2.toInt ≠ (0 : Int) := iv_ne c1
        obtain ⟨x3, ex3⟩ : ∃ z : Int32, z = v4_1 + Int32.ofInt 1 := ⟨_, rfl⟩
        refine lv_iinc (v := x3) (lv' := [(1, .int x3), (2, .int v4_2)]) hx hb dX11_bitsOf_8 hl (k := 0) rfl (by rw [ex3]) (by decide) rfl (fun ls hl => ?_)
        have ix3 := iv_top x3
        refine lv_iload_n hx hb dX11_bitsOf_11 rfl (lv_at hl 1 rfl) ?_
        refine lv_iload_n hx hb dX11_bitsOf_12 rfl (lv_at hl 1 rfl) ?_
        refine lv_iconst (v := 1) hx hb dX11_bitsOf_13 (by decide) ?_
        refine lv_isub hx hb dX11_bitsOf_14 ?_
        refine lv_topi (fun x4 ex4 => ?_)
        have ix4 := iv_top x4
        refine lv_iand hx hb dX11_bitsOf_15 ?_
        refine lv_topi (fun x5 ex5 => ?_)
        have ix5 := iv_top x5
        refine lv_istore_n (lv' := [(2, .int x5), (1, .int x3)]) hx hb dX11_bitsOf_16 rfl hl (by decide) rfl (fun ls hl => ?_)
        refine lv_goto (tgt := 4) hx hb dX11_bitsOf_17 (by decide) ?_
        exact ih4 H locs ls x3 x5 ix3 ix5 hH hS (lv_sub hl [1, 0] rfl) (show x5.toBitVec.toNat < n by exact bits_lt (by assumption) ex5 (by assumption) hn4)
  have J0 : ∀ (H : Heap) (locs : List Loc) (ls : Array Slot), th_H D cT T (km q) H → va_S (th_A T []) s.heap H locs → lv_has ls 3 [(0, .int y0)] → W p l e (rmk 0 0) s m [.int y0].toArray below meth c H locs 0 0 (MQ below (th_Q D cT T (km q) (th_R T (some (.inl (-2147483648, 2147483647)))) []) [.int y0].toArray s 0 0 (th_A T [])) (F0 m 0 ls []) := by
    intro H locs ls hH hS hl
    refine lv_iconst (v := 0) hx hb dX11_bitsOf_0 (by decide) ?_
    refine lv_istore_n (lv' := [(1, .int 0), (0, .int y0)]) hx hb dX11_bitsOf_1 rfl hl (by decide) rfl (fun ls hl => ?_)
    refine lv_iload_n hx hb dX11_bitsOf_2 rfl (lv_at hl 1 rfl) ?_
    refine lv_istore_n (lv' := [(2, .int y0), (1, .int 0), (0, .int y0)]) hx hb dX11_bitsOf_3 rfl hl (by decide) rfl (fun ls hl => ?_)
    exact J4 (y0.toBitVec.toNat + 1) H locs ls 0 y0 (iv_top _) j0 hH hS (lv_sub hl [1, 0] rfl) (Nat.lt_succ_self _)
  exact J0 s.heap [] ls hH va_S.rf hl

set_option maxRecDepth 100000 in
theorem m_X11_divisor (l : Launch) (D : va_G) (cT : Nat → ClassId) (T : Nat → Option Nat) (q : Nat → Int) (hT : tokm T) (hq : qkm q) (y0 : Int32) (j0 : IV y0 1 2147483647) (y1 : Int32) (j1 : IV y1 (-2147483648) 2147483647) : th_Met l D cT T (km q) yX11_divisor cX11_divisor 5 (some .int) (rmk 0 0) [.int y0, .int y1] (th_R T (some (.inl (1, 2147483647)))) [] := by
  refine th_start (by decide) (Nat.le_of_ble_eq_true rfl) ?_
  intro p e s m below meth c ls S hK hH hr hlocks hnm hl
  have hx := S.1
  have hb := S.2.1
  have l1y0 := j0.1; have l2y0 := j0.2
  have hl : lv_has ls 5 [(0, .int y0), (1, .int y1)] := hl
  have J4 : ∀ (n : Nat) (H : Heap) (locs : List Loc) (ls : Array Slot) (v4_2 : Int32) (v4_3 : Int32), IV v4_2 1 2147483647 → IV v4_3 (-2147483648) 2147483647 → th_H D cT T (km q) H → va_S (th_A T []) s.heap H locs → lv_has ls 5 [(2, .int v4_2), (3, .int v4_3)] → v4_3.toInt.toNat < n → W p l e (rmk 0 0) s m [.int y0, .int y1].toArray below meth c H locs 0 0 (MQ below (th_Q D cT T (km q) (th_R T (some (.inl (1, 2147483647)))) []) [.int y0, .int y1].toArray s 0 0 (th_A T [])) (F0 m 4 ls []) := by
    intro n
    induction n with
    | zero => intro H locs ls v4_2 v4_3 iv4_2 iv4_3 hH hS hl hn; exact absurd hn (Nat.not_lt_zero _)
    | succ n ih4 =>
      intro H locs ls v4_2 v4_3 iv4_2 iv4_3 hH hS hl hn4
      have l1v4_2 := iv4_2.1; have l2v4_2 := iv4_2.2
      refine lv_iload_n hx hb dX11_divisor_4 rfl (lv_at hl 1 rfl) ?_
      refine lv_if_le (tgt := 21) hx hb dX11_divisor_5 (by decide) (fun c1 => ?_) (fun c1 => ?_)
      · skip
        have rlc1 : v4_3.toInt ≤ (0 : Int) := iv_le c1
        have ir2 : IV v4_3 (-2147483648) 0 := iv_vL iv4_3 (iv_c (by decide) : IV 0 0 0) (iv_le c1) (by decide)
        have ir2a := ir2.1; have ir2b := ir2.2
        refine lv_iload_n hx hb dX11_divisor_21 rfl (lv_at hl 0 rfl) ?_
        exact th_iret S hK hH hS hr hlocks (th_R.i iv4_2) dX11_divisor_22
      · skip
        have rlc1 : (0 : Int) < v4_3.toInt := iv_nle c1
        have ir3 : IV v4_3 1 2147483647 := iv_uR (iv_c (by decide) : IV 0 0 0) iv4_3 (iv_nle c1) (by decide)
        have ir3a := ir3.1; have ir3b := ir3.2
        refine lv_iload_n hx hb dX11_divisor_8 rfl (lv_at hl 0 rfl) ?_
        refine lv_iload_n hx hb dX11_divisor_9 rfl (lv_at hl 1 rfl) ?_
        refine lv_irem hx hb dX11_divisor_10 (iv_n0 ir3 (by decide)) ?_
        refine lv_topi (fun x4 ex4 => ?_)
        have ix4 : IV x4 0 2147483646 := by rw [ex4]; exact iv_rm (h1 := 2147483647) (iv_w iv4_2 (by decide)) ir3 (by decide)
        refine lv_istore (lv' := [(4, .int x4), (2, .int v4_2), (3, .int v4_3)]) hx hb dX11_divisor_11 hl (by decide) rfl (fun ls hl => ?_)
        refine lv_iload_n hx hb dX11_divisor_13 rfl (lv_at hl 2 rfl) ?_
        refine lv_istore_n (lv' := [(2, .int v4_3), (4, .int x4), (3, .int v4_3)]) hx hb dX11_divisor_14 rfl hl (by decide) rfl (fun ls hl => ?_)
        refine lv_iload hx hb dX11_divisor_15 (lv_at hl 1 rfl) ?_
        refine lv_istore_n (lv' := [(3, .int x4), (2, .int v4_3), (4, .int x4)]) hx hb dX11_divisor_17 rfl hl (by decide) rfl (fun ls hl => ?_)
        refine lv_goto (tgt := 4) hx hb dX11_divisor_18 (by decide) ?_
        exact ih4 H locs ls v4_3 x4 ir3 (iv_top _) hH hS (lv_sub hl [1, 0] rfl) (show x4.toInt.toNat < n by have z1 := div_lt ex4 (by omega); omega)
  have J0 : ∀ (H : Heap) (locs : List Loc) (ls : Array Slot), th_H D cT T (km q) H → va_S (th_A T []) s.heap H locs → lv_has ls 5 [(0, .int y0), (1, .int y1)] → W p l e (rmk 0 0) s m [.int y0, .int y1].toArray below meth c H locs 0 0 (MQ below (th_Q D cT T (km q) (th_R T (some (.inl (1, 2147483647)))) []) [.int y0, .int y1].toArray s 0 0 (th_A T [])) (F0 m 0 ls []) := by
    intro H locs ls hH hS hl
    refine lv_iload_n hx hb dX11_divisor_0 rfl (lv_at hl 0 rfl) ?_
    refine lv_istore_n (lv' := [(2, .int y0), (0, .int y0), (1, .int y1)]) hx hb dX11_divisor_1 rfl hl (by decide) rfl (fun ls hl => ?_)
    refine lv_iload_n hx hb dX11_divisor_2 rfl (lv_at hl 2 rfl) ?_
    refine lv_istore_n (lv' := [(3, .int y1), (2, .int y0), (0, .int y0), (1, .int y1)]) hx hb dX11_divisor_3 rfl hl (by decide) rfl (fun ls hl => ?_)
    exact J4 (y1.toInt.toNat + 1) H locs ls y0 y1 j0 j1 hH hS (lv_sub hl [1, 0] rfl) (Nat.lt_succ_self _)
  exact J0 s.heap [] ls hH va_S.rf hl

set_option maxRecDepth 100000 in
theorem m_X11_isMap (l : Launch) (D : va_G) (cT : Nat → ClassId) (T : Nat → Option Nat) (q : Nat → Int) (hT : tokm T) (hq : qkm q) (a0 : Nat) (t0 : T a0 = some 0) (y1 : Int32) (j1 : IV y1 (-2147483648) 2147483647) : th_Met l D cT T (km q) yX11_isMap cX11_isMap 2 (some .boolean) (rmk 1 22) [.ref a0, .int y1] (th_RP 0 1 (fun r => (r.toInt ≠ 0 → 0 ≤ y1.toInt ∧ y1.toInt < q 11))) [] := by
  refine th_start (by decide) (Nat.le_of_ble_eq_true rfl) ?_
  intro p e s m below meth c ls S hK hH hr hlocks hnm hl
  have hx := S.1
  have hb := S.2.1
  have hl : lv_has ls 2 [(0, .ref a0), (1, .int y1)] := hl
  have J0 : ∀ (H : Heap) (locs : List Loc) (ls : Array Slot), th_H D cT T (km q) H → va_S (th_A T []) s.heap H locs → lv_has ls 2 [(0, .ref a0), (1, .int y1)] → W p l e (rmk 1 22) s m [.ref a0, .int y1].toArray below meth c H locs 0 0 (MQ below (th_Q D cT T (km q) (th_RP 0 1 (fun r => (r.toInt ≠ 0 → 0 ≤ y1.toInt ∧ y1.toInt < q 11))) []) [.ref a0, .int y1].toArray s 0 0 (th_A T [])) (F0 m 0 ls []) := by
    intro H locs ls hH hS hl
    refine lv_iload_n hx hb dX11_isMap_0 rfl (lv_at hl 1 rfl) ?_
    refine lv_iconst (v := 0) hx hb dX11_isMap_1 (by decide) ?_
    refine lv_aload_n hx hb dX11_isMap_2 rfl (lv_at hl 0 rfl) ?_
    refine th_callVp (n := 0) (As := []) S hK hH hS (th_A.sub (by decide)) (m_X11_many l D cT T q hT hq a0 t0) gm_1229 gm_1226 gm_1228 gm_46 gm_124 (by decide +kernel) ⟨rfl, rfl, Nat.le_of_ble_eq_true rfl, Nat.le_of_ble_eq_true rfl⟩ t0 km_0 rfl rfl hl.1 rfl (Nat.le_of_ble_eq_true rfl) dX11_isMap_3 ⟨Nat.zero_le _, Nat.zero_le _⟩ (fun x1 H locs ix1 ox1 hH hS hF1 => ?_)
    have ox1 : x1.toInt = q 11 := ox1
    refine lv_iconst (v := 1) hx hb dX11_isMap_6 (by decide) ?_
    refine lv_isub hx hb dX11_isMap_7 ?_
    refine lv_topi (fun x2 ex2 => ?_)
    have ix2 : IV x2 (-1) 3 := by rw [ex2]; exact iv_sub ix1 (iv_c (by decide) : IV 1 1 1) (by decide)
    have ux2 : x2.toInt = x1.toInt - (1 : Int) := by rw [ex2]; exact iv_subE (by have z1 := (ix1).1; have z2 := (ix1).2; have z3 := ((iv_c (by decide) : IV 1 1 1)).1; have z4 := ((iv_c (by decide) : IV 1 1 1)).2; omega)
    refine th_callSp (n := 3) (As := [.int y1, .int 0, .int x2]) S hK hH hS (th_A.sub (by decide)) (m_X11_isIn l D cT T q hT hq (y1) j1 (0) (iv_top _) (x2) (iv_top _)) gm_1618 gm_1616 gm_1617 gm_124 (by decide +kernel) ⟨rfl, rfl, Nat.le_of_ble_eq_true rfl, Nat.le_of_ble_eq_true rfl⟩ rfl hl.1 rfl (Nat.le_of_ble_eq_true rfl) dX11_isMap_8 ⟨Nat.zero_le _, Nat.zero_le _⟩ (fun x3 H locs ix3 ox3 hH hS hF1 => ?_)
    obtain ⟨ox3_0, ox3_1⟩ := ox3
    have ox3_0 : x3.toInt ≠ 0 → (0 : Int) ≤ y1.toInt ∧ y1.toInt ≤ x2.toInt := ox3_0
    have ox3_1 : x3.toInt = 0 → y1.toInt < (0 : Int) ∨ x2.toInt < y1.toInt := ox3_1
    exact th_zret S hK hH hS hr hlocks ix3 (th_RP.i ix3 (show x3.toInt ≠ 0 → 0 ≤ y1.toInt ∧ y1.toInt < q 11 by first | assumption | (first | omega | (intro z; omega)))) dX11_isMap_11
  exact J0 s.heap [] ls hH va_S.rf hl

set_option maxRecDepth 100000 in
theorem m_X11_isFood (l : Launch) (D : va_G) (cT : Nat → ClassId) (T : Nat → Option Nat) (q : Nat → Int) (hT : tokm T) (hq : qkm q) (a0 : Nat) (t0 : T a0 = some 0) (y1 : Int32) (j1 : IV y1 (-2147483648) 2147483647) : th_Met l D cT T (km q) yX11_isFood cX11_isFood 2 (some .boolean) (rmk 1 22) [.ref a0, .int y1] (th_RP 0 1 (fun r => (r.toInt ≠ 0 → 0 ≤ y1.toInt ∧ y1.toInt < q 16))) [] := by
  refine th_start (by decide) (Nat.le_of_ble_eq_true rfl) ?_
  intro p e s m below meth c ls S hK hH hr hlocks hnm hl
  have hx := S.1
  have hb := S.2.1
  have hl : lv_has ls 2 [(0, .ref a0), (1, .int y1)] := hl
  have J0 : ∀ (H : Heap) (locs : List Loc) (ls : Array Slot), th_H D cT T (km q) H → va_S (th_A T []) s.heap H locs → lv_has ls 2 [(0, .ref a0), (1, .int y1)] → W p l e (rmk 1 22) s m [.ref a0, .int y1].toArray below meth c H locs 0 0 (MQ below (th_Q D cT T (km q) (th_RP 0 1 (fun r => (r.toInt ≠ 0 → 0 ≤ y1.toInt ∧ y1.toInt < q 16))) []) [.ref a0, .int y1].toArray s 0 0 (th_A T [])) (F0 m 0 ls []) := by
    intro H locs ls hH hS hl
    refine lv_iload_n hx hb dX11_isFood_0 rfl (lv_at hl 1 rfl) ?_
    refine lv_iconst (v := 0) hx hb dX11_isFood_1 (by decide) ?_
    refine lv_aload_n hx hb dX11_isFood_2 rfl (lv_at hl 0 rfl) ?_
    refine th_get S hK hH inG11 t0 km_0 rfl 11 (by decide) gm_1241 rfl rfl dX11_isFood_3 (fun v1 hv1 fv1 => ?_)
    obtain ⟨rf2, rfl, trf2⟩ := th_V.ref hv1
    refine lv_aload_n hx hb dX11_isFood_6 rfl (lv_at hl 0 rfl) ?_
    refine th_get S hK hH inG11 t0 km_0 rfl 41 (by decide) gm_1271 rfl rfl dX11_isFood_7 (fun v3 hv3 fv3 => ?_)
    obtain ⟨x4, rfl, ix4⟩ := th_V.int hv3
    have kx4a : q 10 ≤ x4.toInt := ix4.1
    have kx4b : x4.toInt ≤ q 10 := ix4.2
    have ix4 : IV x4 0 1 := iv_w ix4 (qkm_10 hq)
    refine th_iald S hK hH trf2 km_3 (th_in (hi := 1) ix4 (by decide)) dX11_isFood_10 (fun v5 hv5 => ?_)
    obtain ⟨x6, rfl, ix6⟩ := th_bkA hv5 ix4 (by omega)
    have kx6a : q 16 ≤ x6.toInt := ix6.1
    have kx6b : x6.toInt ≤ q 16 := ix6.2
    have ix6 : IV x6 0 3 := iv_w ix6 (qkm_16 hq)
    refine lv_iconst (v := 1) hx hb dX11_isFood_11 (by decide) ?_
    refine lv_isub hx hb dX11_isFood_12 ?_
    refine lv_topi (fun x7 ex7 => ?_)
    have ix7 : IV x7 (-1) 2 := by rw [ex7]; exact iv_sub ix6 (iv_c (by decide) : IV 1 1 1) (by decide)
    have ux7 : x7.toInt = x6.toInt - (1 : Int) := by rw [ex7]; exact iv_subE (by have z1 := (ix6).1; have z2 := (ix6).2; have z3 := ((iv_c (by decide) : IV 1 1 1)).1; have z4 := ((iv_c (by decide) : IV 1 1 1)).2; omega)
    refine th_callSp (n := 3) (As := [.int y1, .int 0, .int x7]) S hK hH hS (th_A.sub (by decide)) (m_X11_isIn l D cT T q hT hq (y1) j1 (0) (iv_top _) (x7) (iv_top _)) gm_1618 gm_1616 gm_1617 gm_124 (by decide +kernel) ⟨rfl, rfl, Nat.le_of_ble_eq_true rfl, Nat.le_of_ble_eq_true rfl⟩ rfl hl.1 rfl (Nat.le_of_ble_eq_true rfl) dX11_isFood_13 ⟨Nat.zero_le _, Nat.zero_le _⟩ (fun x8 H locs ix8 ox8 hH hS hF1 => ?_)
    obtain ⟨ox8_0, ox8_1⟩ := ox8
    have ox8_0 : x8.toInt ≠ 0 → (0 : Int) ≤ y1.toInt ∧ y1.toInt ≤ x7.toInt := ox8_0
    have ox8_1 : x8.toInt = 0 → y1.toInt < (0 : Int) ∨ x7.toInt < y1.toInt := ox8_1
    exact th_zret S hK hH hS hr hlocks ix8 (th_RP.i ix8 (show x8.toInt ≠ 0 → 0 ≤ y1.toInt ∧ y1.toInt < q 16 by first | assumption | (first | omega | (intro z; omega)))) dX11_isFood_16
  exact J0 s.heap [] ls hH va_S.rf hl

set_option maxRecDepth 100000 in
theorem m_X11_isPlace (l : Launch) (D : va_G) (cT : Nat → ClassId) (T : Nat → Option Nat) (q : Nat → Int) (hT : tokm T) (hq : qkm q) (a0 : Nat) (t0 : T a0 = some 0) (y1 : Int32) (j1 : IV y1 (-2147483648) 2147483647) : th_Met l D cT T (km q) yX11_isPlace cX11_isPlace 2 (some .boolean) (rmk 1 22) [.ref a0, .int y1] (th_RP 0 1 (fun r => (r.toInt ≠ 0 → 0 ≤ y1.toInt ∧ y1.toInt < q 18))) [] := by
  refine th_start (by decide) (Nat.le_of_ble_eq_true rfl) ?_
  intro p e s m below meth c ls S hK hH hr hlocks hnm hl
  have hx := S.1
  have hb := S.2.1
  have hl : lv_has ls 2 [(0, .ref a0), (1, .int y1)] := hl
  have J0 : ∀ (H : Heap) (locs : List Loc) (ls : Array Slot), th_H D cT T (km q) H → va_S (th_A T []) s.heap H locs → lv_has ls 2 [(0, .ref a0), (1, .int y1)] → W p l e (rmk 1 22) s m [.ref a0, .int y1].toArray below meth c H locs 0 0 (MQ below (th_Q D cT T (km q) (th_RP 0 1 (fun r => (r.toInt ≠ 0 → 0 ≤ y1.toInt ∧ y1.toInt < q 18))) []) [.ref a0, .int y1].toArray s 0 0 (th_A T [])) (F0 m 0 ls []) := by
    intro H locs ls hH hS hl
    refine lv_iload_n hx hb dX11_isPlace_0 rfl (lv_at hl 1 rfl) ?_
    refine lv_iconst (v := 0) hx hb dX11_isPlace_1 (by decide) ?_
    refine lv_aload_n hx hb dX11_isPlace_2 rfl (lv_at hl 0 rfl) ?_
    refine th_get S hK hH inG11 t0 km_0 rfl 13 (by decide) gm_1243 rfl rfl dX11_isPlace_3 (fun v1 hv1 fv1 => ?_)
    obtain ⟨rf2, rfl, trf2⟩ := th_V.ref hv1
    refine lv_aload_n hx hb dX11_isPlace_6 rfl (lv_at hl 0 rfl) ?_
    refine th_get S hK hH inG11 t0 km_0 rfl 41 (by decide) gm_1271 rfl rfl dX11_isPlace_7 (fun v3 hv3 fv3 => ?_)
    obtain ⟨x4, rfl, ix4⟩ := th_V.int hv3
    have kx4a : q 10 ≤ x4.toInt := ix4.1
    have kx4b : x4.toInt ≤ q 10 := ix4.2
    have ix4 : IV x4 0 1 := iv_w ix4 (qkm_10 hq)
    refine th_iald S hK hH trf2 km_5 (th_in (hi := 1) ix4 (by decide)) dX11_isPlace_10 (fun v5 hv5 => ?_)
    obtain ⟨x6, rfl, ix6⟩ := th_bkA hv5 ix4 (by omega)
    have kx6a : q 18 ≤ x6.toInt := ix6.1
    have kx6b : x6.toInt ≤ q 18 := ix6.2
    have ix6 : IV x6 0 8 := iv_w ix6 (qkm_18 hq)
    refine lv_iconst (v := 1) hx hb dX11_isPlace_11 (by decide) ?_
    refine lv_isub hx hb dX11_isPlace_12 ?_
    refine lv_topi (fun x7 ex7 => ?_)
    have ix7 : IV x7 (-1) 7 := by rw [ex7]; exact iv_sub ix6 (iv_c (by decide) : IV 1 1 1) (by decide)
    have ux7 : x7.toInt = x6.toInt - (1 : Int) := by rw [ex7]; exact iv_subE (by have z1 := (ix6).1; have z2 := (ix6).2; have z3 := ((iv_c (by decide) : IV 1 1 1)).1; have z4 := ((iv_c (by decide) : IV 1 1 1)).2; omega)
    refine th_callSp (n := 3) (As := [.int y1, .int 0, .int x7]) S hK hH hS (th_A.sub (by decide)) (m_X11_isIn l D cT T q hT hq (y1) j1 (0) (iv_top _) (x7) (iv_top _)) gm_1618 gm_1616 gm_1617 gm_124 (by decide +kernel) ⟨rfl, rfl, Nat.le_of_ble_eq_true rfl, Nat.le_of_ble_eq_true rfl⟩ rfl hl.1 rfl (Nat.le_of_ble_eq_true rfl) dX11_isPlace_13 ⟨Nat.zero_le _, Nat.zero_le _⟩ (fun x8 H locs ix8 ox8 hH hS hF1 => ?_)
    obtain ⟨ox8_0, ox8_1⟩ := ox8
    have ox8_0 : x8.toInt ≠ 0 → (0 : Int) ≤ y1.toInt ∧ y1.toInt ≤ x7.toInt := ox8_0
    have ox8_1 : x8.toInt = 0 → y1.toInt < (0 : Int) ∨ x7.toInt < y1.toInt := ox8_1
    exact th_zret S hK hH hS hr hlocks ix8 (th_RP.i ix8 (show x8.toInt ≠ 0 → 0 ≤ y1.toInt ∧ y1.toInt < q 18 by first | assumption | (first | omega | (intro z; omega)))) dX11_isPlace_16
  exact J0 s.heap [] ls hH va_S.rf hl

set_option maxRecDepth 100000 in
theorem m_X11_isOn (l : Launch) (D : va_G) (cT : Nat → ClassId) (T : Nat → Option Nat) (q : Nat → Int) (hT : tokm T) (hq : qkm q) (a0 : Nat) (t0 : T a0 = some 0) (y1 : Int32) (j1 : IV y1 0 7) (y2 : Int32) (j2 : IV y2 (-2147483648) 2147483647) : th_Met l D cT T (km q) yX11_isOn cX11_isOn 3 (some .boolean) (rmk 1 21) [.ref a0, .int y1, .int y2] (th_R T (some (.inl (0, 1)))) [] := by
  refine th_start (by decide) (Nat.le_of_ble_eq_true rfl) ?_
  intro p e s m below meth c ls S hK hH hr hlocks hnm hl
  have hx := S.1
  have hb := S.2.1
  have l1y1 := j1.1; have l2y1 := j1.2
  have hl : lv_has ls 3 [(0, .ref a0), (1, .int y1), (2, .int y2)] := hl
  have J0 : ∀ (H : Heap) (locs : List Loc) (ls : Array Slot), th_H D cT T (km q) H → va_S (th_A T []) s.heap H locs → lv_has ls 3 [(0, .ref a0), (1, .int y1), (2, .int y2)] → W p l e (rmk 1 21) s m [.ref a0, .int y1, .int y2].toArray below meth c H locs 0 0 (MQ below (th_Q D cT T (km q) (th_R T (some (.inl (0, 1)))) []) [.ref a0, .int y1, .int y2].toArray s 0 0 (th_A T [])) (F0 m 0 ls []) := by
    intro H locs ls hH hS hl
    refine lv_aload_n hx hb dX11_isOn_0 rfl (lv_at hl 0 rfl) ?_
    refine th_get S hK hH inG11 t0 km_0 rfl 25 (by decide) gm_1255 rfl rfl dX11_isOn_1 (fun v1 hv1 fv1 => ?_)
    obtain ⟨rf2, rfl, trf2⟩ := th_V.ref hv1
    refine lv_bipush (v := 8) hx hb dX11_isOn_4 (by decide) ?_
    refine lv_aload_n hx hb dX11_isOn_6 rfl (lv_at hl 0 rfl) ?_
    refine th_get S hK hH inG11 t0 km_0 rfl 41 (by decide) gm_1271 rfl rfl dX11_isOn_7 (fun v3 hv3 fv3 => ?_)
    obtain ⟨x4, rfl, ix4⟩ := th_V.int hv3
    have kx4a : q 10 ≤ x4.toInt := ix4.1
    have kx4b : x4.toInt ≤ q 10 := ix4.2
    have ix4 : IV x4 0 1 := iv_w ix4 (qkm_10 hq)
    refine lv_imul hx hb dX11_isOn_10 ?_
    refine lv_topi (fun x5 ex5 => ?_)
    have ix5 : IV x5 0 8 := by rw [ex5]; exact iv_mul (iv_c (by decide) : IV 8 8 8) ix4 (by decide) (by decide)
    have ux5 : x5.toInt = (8 : Int) * x4.toInt := by rw [ex5]; exact iv_mulE (iv_corner ((iv_c (by decide) : IV 8 8 8)).1 ((iv_c (by decide) : IV 8 8 8)).2 (ix4).1 (ix4).2 (by decide))
    refine lv_iload_n hx hb dX11_isOn_11 rfl (lv_at hl 1 rfl) ?_
    refine lv_iadd hx hb dX11_isOn_12 ?_
    refine lv_topi (fun x6 ex6 => ?_)
    have ix6 : IV x6 0 15 := by rw [ex6]; exact iv_add ix5 j1 (by decide)
    have ux6 : x6.toInt = x5.toInt + y1.toInt := by rw [ex6]; exact iv_addE (by have z1 := (ix5).1; have z2 := (ix5).2; have z3 := (j1).1; have z4 := (j1).2; omega)
    refine th_iald S hK hH trf2 km_17 (th_in (hi := 15) ix6 (by decide)) dX11_isOn_13 (fun v7 hv7 => ?_)
    obtain ⟨x8, rfl, ix8⟩ := th_V.int hv7
    refine lv_iload_n hx hb dX11_isOn_14 rfl (lv_at hl 2 rfl) ?_
    refine th_callSp (n := 2) (As := [.int x8, .int y2]) S hK hH hS (th_A.sub (by decide)) (m_X11_has l D cT T q hT hq (x8) ix8 (y2) j2) gm_1633 gm_1631 gm_1632 gm_124 (by decide +kernel) ⟨rfl, rfl, Nat.le_of_ble_eq_true rfl, Nat.le_of_ble_eq_true rfl⟩ rfl hl.1 rfl (Nat.le_of_ble_eq_true rfl) dX11_isOn_15 ⟨Nat.zero_le _, Nat.zero_le _⟩ (fun x9 H locs ix9 ox9 hH hS hF1 => ?_)
    have ox9 : x9.toInt = 0 → ¬ ((x8 >>> (y2 &&& 31)) &&& 1 = 1) := ox9
    exact th_zret S hK hH hS hr hlocks ix9 (th_R.i ix9) dX11_isOn_18
  exact J0 s.heap [] ls hH va_S.rf hl

set_option maxRecDepth 100000 in
theorem m_X11_likedBy (l : Launch) (D : va_G) (cT : Nat → ClassId) (T : Nat → Option Nat) (q : Nat → Int) (hT : tokm T) (hq : qkm q) (a0 : Nat) (t0 : T a0 = some 0) (y1 : Int32) (j1 : IV y1 0 3) (y2 : Int32) (j2 : IV y2 0 2) : th_Met l D cT T (km q) yX11_likedBy cX11_likedBy 3 (some .int) (rmk 0 0) [.ref a0, .int y1, .int y2] (th_R T (some (.inl (-2147483648, 2147483647)))) [] := by
  refine th_start (by decide) (Nat.le_of_ble_eq_true rfl) ?_
  intro p e s m below meth c ls S hK hH hr hlocks hnm hl
  have hx := S.1
  have hb := S.2.1
  have l1y1 := j1.1; have l2y1 := j1.2
  have l1y2 := j2.1; have l2y2 := j2.2
  have hl : lv_has ls 3 [(0, .ref a0), (1, .int y1), (2, .int y2)] := hl
  have J0 : ∀ (H : Heap) (locs : List Loc) (ls : Array Slot), th_H D cT T (km q) H → va_S (th_A T []) s.heap H locs → lv_has ls 3 [(0, .ref a0), (1, .int y1), (2, .int y2)] → W p l e (rmk 0 0) s m [.ref a0, .int y1, .int y2].toArray below meth c H locs 0 0 (MQ below (th_Q D cT T (km q) (th_R T (some (.inl (-2147483648, 2147483647)))) []) [.ref a0, .int y1, .int y2].toArray s 0 0 (th_A T [])) (F0 m 0 ls []) := by
    intro H locs ls hH hS hl
    refine lv_aload_n hx hb dX11_likedBy_0 rfl (lv_at hl 0 rfl) ?_
    refine th_get S hK hH inG11 t0 km_0 rfl 26 (by decide) gm_1256 rfl rfl dX11_likedBy_1 (fun v1 hv1 fv1 => ?_)
    obtain ⟨rf2, rfl, trf2⟩ := th_V.ref hv1
    refine lv_iconst (v := 3) hx hb dX11_likedBy_4 (by decide) ?_
    refine lv_iconst (v := 4) hx hb dX11_likedBy_5 (by decide) ?_
    refine lv_aload_n hx hb dX11_likedBy_6 rfl (lv_at hl 0 rfl) ?_
    refine th_get S hK hH inG11 t0 km_0 rfl 41 (by decide) gm_1271 rfl rfl dX11_likedBy_7 (fun v3 hv3 fv3 => ?_)
    obtain ⟨x4, rfl, ix4⟩ := th_V.int hv3
    have kx4a : q 10 ≤ x4.toInt := ix4.1
    have kx4b : x4.toInt ≤ q 10 := ix4.2
    have ix4 : IV x4 0 1 := iv_w ix4 (qkm_10 hq)
    refine lv_imul hx hb dX11_likedBy_10 ?_
    refine lv_topi (fun x5 ex5 => ?_)
    have ix5 : IV x5 0 4 := by rw [ex5]; exact iv_mul (iv_c (by decide) : IV 4 4 4) ix4 (by decide) (by decide)
    have ux5 : x5.toInt = (4 : Int) * x4.toInt := by rw [ex5]; exact iv_mulE (iv_corner ((iv_c (by decide) : IV 4 4 4)).1 ((iv_c (by decide) : IV 4 4 4)).2 (ix4).1 (ix4).2 (by decide))
    refine lv_iload_n hx hb dX11_likedBy_11 rfl (lv_at hl 1 rfl) ?_
    refine lv_iadd hx hb dX11_likedBy_12 ?_
    refine lv_topi (fun x6 ex6 => ?_)
    have ix6 : IV x6 0 7 := by rw [ex6]; exact iv_add ix5 j1 (by decide)
    have ux6 : x6.toInt = x5.toInt + y1.toInt := by rw [ex6]; exact iv_addE (by have z1 := (ix5).1; have z2 := (ix5).2; have z3 := (j1).1; have z4 := (j1).2; omega)
    refine lv_imul hx hb dX11_likedBy_13 ?_
    refine lv_topi (fun x7 ex7 => ?_)
    have ix7 : IV x7 0 21 := by rw [ex7]; exact iv_mul (iv_c (by decide) : IV 3 3 3) ix6 (by decide) (by decide)
    have ux7 : x7.toInt = (3 : Int) * x6.toInt := by rw [ex7]; exact iv_mulE (iv_corner ((iv_c (by decide) : IV 3 3 3)).1 ((iv_c (by decide) : IV 3 3 3)).2 (ix6).1 (ix6).2 (by decide))
    refine lv_iload_n hx hb dX11_likedBy_14 rfl (lv_at hl 2 rfl) ?_
    refine lv_iadd hx hb dX11_likedBy_15 ?_
    refine lv_topi (fun x8 ex8 => ?_)
    have ix8 : IV x8 0 23 := by rw [ex8]; exact iv_add ix7 j2 (by decide)
    have ux8 : x8.toInt = x7.toInt + y2.toInt := by rw [ex8]; exact iv_addE (by have z1 := (ix7).1; have z2 := (ix7).2; have z3 := (j2).1; have z4 := (j2).2; omega)
    refine th_iald S hK hH trf2 km_18 (th_in (hi := 23) ix8 (by decide)) dX11_likedBy_16 (fun v9 hv9 => ?_)
    obtain ⟨x10, rfl, ix10⟩ := th_V.int hv9
    exact th_iret S hK hH hS hr hlocks (th_R.i ix10) dX11_likedBy_17
  exact J0 s.heap [] ls hH va_S.rf hl

set_option maxRecDepth 100000 in
theorem m_X11_doesBite (l : Launch) (D : va_G) (cT : Nat → ClassId) (T : Nat → Option Nat) (q : Nat → Int) (hT : tokm T) (hq : qkm q) (a0 : Nat) (t0 : T a0 = some 0) (y1 : Int32) (j1 : IV y1 0 3) (y2 : Int32) (j2 : IV y2 0 3) : th_Met l D cT T (km q) yX11_doesBite cX11_doesBite 3 (some .boolean) (rmk 1 21) [.ref a0, .int y1, .int y2] (th_R T (some (.inl (0, 1)))) [] := by
  refine th_start (by decide) (Nat.le_of_ble_eq_true rfl) ?_
  intro p e s m below meth c ls S hK hH hr hlocks hnm hl
  have hx := S.1
  have hb := S.2.1
  have l1y1 := j1.1; have l2y1 := j1.2
  have l1y2 := j2.1; have l2y2 := j2.2
  have hl : lv_has ls 3 [(0, .ref a0), (1, .int y1), (2, .int y2)] := hl
  have J74_s0_0 : ∀ (H : Heap) (locs : List Loc) (ls : Array Slot), th_H D cT T (km q) H → va_S (th_A T []) s.heap H locs → lv_has ls 3 [] → W p l e (rmk 1 21) s m [.ref a0, .int y1, .int y2].toArray below meth c H locs 0 0 (MQ below (th_Q D cT T (km q) (th_R T (some (.inl (0, 1)))) []) [.ref a0, .int y1, .int y2].toArray s 0 0 (th_A T [])) (F0 m 74 ls [.int 0]) := by
    intro H locs ls hH hS hl
    exact th_zret S hK hH hS hr hlocks (iv_w (iv_c (by decide) : IV 0 0 0) (by decide)) (th_R.i (iv_w (iv_c (by decide) : IV 0 0 0) (by decide))) dX11_doesBite_74
  have J74_s0_1 : ∀ (H : Heap) (locs : List Loc) (ls : Array Slot), th_H D cT T (km q) H → va_S (th_A T []) s.heap H locs → lv_has ls 3 [] → W p l e (rmk 1 21) s m [.ref a0, .int y1, .int y2].toArray below meth c H locs 0 0 (MQ below (th_Q D cT T (km q) (th_R T (some (.inl (0, 1)))) []) [.ref a0, .int y1, .int y2].toArray s 0 0 (th_A T [])) (F0 m 74 ls [.int 1]) := by
    intro H locs ls hH hS hl
    exact th_zret S hK hH hS hr hlocks (iv_w (iv_c (by decide) : IV 1 1 1) (by decide)) (th_R.i (iv_w (iv_c (by decide) : IV 1 1 1) (by decide))) dX11_doesBite_74
  have J73 : ∀ (H : Heap) (locs : List Loc) (ls : Array Slot), th_H D cT T (km q) H → va_S (th_A T []) s.heap H locs → lv_has ls 3 [] → W p l e (rmk 1 21) s m [.ref a0, .int y1, .int y2].toArray below meth c H locs 0 0 (MQ below (th_Q D cT T (km q) (th_R T (some (.inl (0, 1)))) []) [.ref a0, .int y1, .int y2].toArray s 0 0 (th_A T [])) (F0 m 73 ls []) := by
    intro H locs ls hH hS hl
    refine lv_iconst (v := 0) hx hb dX11_doesBite_73 (by decide) ?_
    exact J74_s0_0 H locs ls  hH hS (lv_sub hl [] rfl)
  have J0 : ∀ (H : Heap) (locs : List Loc) (ls : Array Slot), th_H D cT T (km q) H → va_S (th_A T []) s.heap H locs → lv_has ls 3 [(0, .ref a0), (1, .int y1), (2, .int y2)] → W p l e (rmk 1 21) s m [.ref a0, .int y1, .int y2].toArray below meth c H locs 0 0 (MQ below (th_Q D cT T (km q) (th_R T (some (.inl (0, 1)))) []) [.ref a0, .int y1, .int y2].toArray s 0 0 (th_A T [])) (F0 m 0 ls []) := by
    intro H locs ls hH hS hl
    refine lv_aload_n hx hb dX11_doesBite_0 rfl (lv_at hl 0 rfl) ?_
    refine th_get S hK hH inG11 t0 km_0 rfl 22 (by decide) gm_1252 rfl rfl dX11_doesBite_1 (fun v1 hv1 fv1 => ?_)
    obtain ⟨rf2, rfl, trf2⟩ := th_V.ref hv1
    refine lv_iconst (v := 4) hx hb dX11_doesBite_4 (by decide) ?_
    refine lv_aload_n hx hb dX11_doesBite_5 rfl (lv_at hl 0 rfl) ?_
    refine th_get S hK hH inG11 t0 km_0 rfl 41 (by decide) gm_1271 rfl rfl dX11_doesBite_6 (fun v3 hv3 fv3 => ?_)
    obtain ⟨x4, rfl, ix4⟩ := th_V.int hv3
    have kx4a : q 10 ≤ x4.toInt := ix4.1
    have kx4b : x4.toInt ≤ q 10 := ix4.2
    have ix4 : IV x4 0 1 := iv_w ix4 (qkm_10 hq)
    refine lv_imul hx hb dX11_doesBite_9 ?_
    refine lv_topi (fun x5 ex5 => ?_)
    have ix5 : IV x5 0 4 := by rw [ex5]; exact iv_mul (iv_c (by decide) : IV 4 4 4) ix4 (by decide) (by decide)
    have ux5 : x5.toInt = (4 : Int) * x4.toInt := by rw [ex5]; exact iv_mulE (iv_corner ((iv_c (by decide) : IV 4 4 4)).1 ((iv_c (by decide) : IV 4 4 4)).2 (ix4).1 (ix4).2 (by decide))
    refine lv_iload_n hx hb dX11_doesBite_10 rfl (lv_at hl 1 rfl) ?_
    refine lv_iadd hx hb dX11_doesBite_11 ?_
    refine lv_topi (fun x6 ex6 => ?_)
    have ix6 : IV x6 0 7 := by rw [ex6]; exact iv_add ix5 j1 (by decide)
    have ux6 : x6.toInt = x5.toInt + y1.toInt := by rw [ex6]; exact iv_addE (by have z1 := (ix5).1; have z2 := (ix5).2; have z3 := (j1).1; have z4 := (j1).2; omega)
    refine th_iald S hK hH trf2 km_14 (th_in (hi := 7) ix6 (by decide)) dX11_doesBite_12 (fun v7 hv7 => ?_)
    obtain ⟨x8, rfl, ix8⟩ := th_V.int hv7
    refine lv_iload_n hx hb dX11_doesBite_13 rfl (lv_at hl 2 rfl) ?_
    refine th_callSp (n := 2) (As := [.int x8, .int y2]) S hK hH hS (th_A.sub (by decide)) (m_X11_has l D cT T q hT hq (x8) ix8 (y2) (iv_top _)) gm_1633 gm_1631 gm_1632 gm_124 (by decide +kernel) ⟨rfl, rfl, Nat.le_of_ble_eq_true rfl, Nat.le_of_ble_eq_true rfl⟩ rfl hl.1 rfl (Nat.le_of_ble_eq_true rfl) dX11_doesBite_14 ⟨Nat.zero_le _, Nat.zero_le _⟩ (fun x9 H locs ix9 ox9 hH hS hF1 => ?_)
    have ox9 : x9.toInt = 0 → ¬ ((x8 >>> (y2 &&& 31)) &&& 1 = 1) := ox9
    refine lv_if_eq (tgt := 73) hx hb dX11_doesBite_17 (by decide) (fun c10 => ?_) (fun c10 => ?_)
    · skip
      have rlc10 : x9.toInt = (0 : Int) := congrArg Int32.toInt c10
      have ir11 : IV x9 0 0 := iv_eL c10 (iv_c (by decide) : IV 0 0 0)
      have ir11a := ir11.1; have ir11b := ir11.2
      exact J73 H locs ls  hH hS (lv_sub hl [] rfl)
    · skip
      have rlc10 : x9.toInt ≠ (0 : Int) := iv_ne c10
      have ir12 : IV x9 1 1 := iv_cutL ix9 (iv_c (by decide) : IV 0 0 0) c10 (by decide)
      have ir12a := ir12.1; have ir12b := ir12.2
      refine lv_aload_n hx hb dX11_doesBite_20 rfl (lv_at hl 0 rfl) ?_
      refine th_get S hK hH inG11 t0 km_0 rfl 52 (by decide) gm_1282 rfl rfl dX11_doesBite_21 (fun v13 hv13 fv13 => ?_)
      obtain ⟨rf14, rfl, trf14⟩ := th_V.ref hv13
      refine lv_bipush (v := 35) hx hb dX11_doesBite_24 (by decide) ?_
      refine lv_iload_n hx hb dX11_doesBite_26 rfl (lv_at hl 1 rfl) ?_
      refine lv_iadd hx hb dX11_doesBite_27 ?_
      refine lv_topi (fun x15 ex15 => ?_)
      have ix15 : IV x15 35 38 := by rw [ex15]; exact iv_add (iv_c (by decide) : IV 35 35 35) j1 (by decide)
      have ux15 : x15.toInt = (35 : Int) + y1.toInt := by rw [ex15]; exact iv_addE (by have z1 := ((iv_c (by decide) : IV 35 35 35)).1; have z2 := ((iv_c (by decide) : IV 35 35 35)).2; have z3 := (j1).1; have z4 := (j1).2; omega)
      refine th_iald S hK hH trf14 km_33 (th_in (hi := 38) (iv_w ix15 (by decide)) (by decide)) dX11_doesBite_28 (fun v16 hv16 => ?_)
      obtain ⟨x17, rfl, ix17⟩ := th_V.int hv16
      refine lv_aload_n hx hb dX11_doesBite_29 rfl (lv_at hl 0 rfl) ?_
      refine th_getK S hK fv13 inG11 rfl (by decide) gm_1282 rfl dX11_doesBite_30 ?_
      refine lv_bipush (v := 35) hx hb dX11_doesBite_33 (by decide) ?_
      refine lv_iload_n hx hb dX11_doesBite_35 rfl (lv_at hl 2 rfl) ?_
      refine lv_iadd hx hb dX11_doesBite_36 ?_
      refine lv_topi (fun x19 ex19 => ?_)
      have ix19 : IV x19 35 38 := by rw [ex19]; exact iv_add (iv_c (by decide) : IV 35 35 35) j2 (by decide)
      have ux19 : x19.toInt = (35 : Int) + y2.toInt := by rw [ex19]; exact iv_addE (by have z1 := ((iv_c (by decide) : IV 35 35 35)).1; have z2 := ((iv_c (by decide) : IV 35 35 35)).2; have z3 := (j2).1; have z4 := (j2).2; omega)
      refine th_iald S hK hH trf14 km_33 (th_in (hi := 38) (iv_w ix19 (by decide)) (by decide)) dX11_doesBite_37 (fun v20 hv20 => ?_)
      obtain ⟨x21, rfl, ix21⟩ := th_V.int hv20
      refine lv_icmp_ne (tgt := 73) hx hb dX11_doesBite_38 (by decide) (fun c22 => ?_) (fun c22 => ?_)
      · skip
        have rlc22 : x17.toInt ≠ x21.toInt := iv_ne c22
        exact J73 H locs ls  hH hS (lv_sub hl [] rfl)
      · skip
        have rlc22 : x17.toInt = x21.toInt := congrArg Int32.toInt c22
        refine lv_aload_n hx hb dX11_doesBite_41 rfl (lv_at hl 0 rfl) ?_
        refine th_getK S hK fv13 inG11 rfl (by decide) gm_1282 rfl dX11_doesBite_42 ?_
        refine lv_bipush (v := 39) hx hb dX11_doesBite_45 (by decide) ?_
        refine th_iald S hK hH trf14 km_33 (th_in (hi := 39) (iv_w (iv_c (by decide) : IV 39 39 39) (by decide)) (by decide)) dX11_doesBite_47 (fun v24 hv24 => ?_)
        obtain ⟨x25, rfl, ix25⟩ := th_V.int hv24
        refine lv_iload_n hx hb dX11_doesBite_48 rfl (lv_at hl 1 rfl) ?_
        refine th_callSp (n := 2) (As := [.int x25, .int y1]) S hK hH hS (th_A.sub (by decide)) (m_X11_has l D cT T q hT hq (x25) ix25 (y1) (iv_top _)) gm_1633 gm_1631 gm_1632 gm_124 (by decide +kernel) ⟨rfl, rfl, Nat.le_of_ble_eq_true rfl, Nat.le_of_ble_eq_true rfl⟩ rfl hl.1 rfl (Nat.le_of_ble_eq_true rfl) dX11_doesBite_49 ⟨Nat.zero_le _, Nat.zero_le _⟩ (fun x26 H locs ix26 ox26 hH hS hF1 => ?_)
        have ox26 : x26.toInt = 0 → ¬ ((x25 >>> (y1 &&& 31)) &&& 1 = 1) := ox26
        have f27 := fv13.kept (hF1 _ fv13.lt (th_off t0 (by decide)))
        refine lv_if_ne (tgt := 73) hx hb dX11_doesBite_52 (by decide) (fun c28 => ?_) (fun c28 => ?_)
        · skip
          have rlc28 : x26.toInt ≠ (0 : Int) := iv_ne c28
          have ir29 : IV x26 1 1 := iv_cutL ix26 (iv_c (by decide) : IV 0 0 0) c28 (by decide)
          have ir29a := ir29.1; have ir29b := ir29.2
          exact J73 H locs ls  hH hS (lv_sub hl [] rfl)
        · skip
          have rlc28 : x26.toInt = (0 : Int) := congrArg Int32.toInt c28
          have ir30 : IV x26 0 0 := iv_eL c28 (iv_c (by decide) : IV 0 0 0)
          have ir30a := ir30.1; have ir30b := ir30.2
          refine lv_aload_n hx hb dX11_doesBite_55 rfl (lv_at hl 0 rfl) ?_
          refine th_getK S hK f27 inG11 rfl (by decide) gm_1282 rfl dX11_doesBite_56 ?_
          refine lv_bipush (v := 39) hx hb dX11_doesBite_59 (by decide) ?_
          refine th_iald S hK hH trf14 km_33 (th_in (hi := 39) (iv_w (iv_c (by decide) : IV 39 39 39) (by decide)) (by decide)) dX11_doesBite_61 (fun v32 hv32 => ?_)
          obtain ⟨x33, rfl, ix33⟩ := th_V.int hv32
          refine lv_iload_n hx hb dX11_doesBite_62 rfl (lv_at hl 2 rfl) ?_
          refine th_callSp (n := 2) (As := [.int x33, .int y2]) S hK hH hS (th_A.sub (by decide)) (m_X11_has l D cT T q hT hq (x33) ix33 (y2) (iv_top _)) gm_1633 gm_1631 gm_1632 gm_124 (by decide +kernel) ⟨rfl, rfl, Nat.le_of_ble_eq_true rfl, Nat.le_of_ble_eq_true rfl⟩ rfl hl.1 rfl (Nat.le_of_ble_eq_true rfl) dX11_doesBite_63 ⟨Nat.zero_le _, Nat.zero_le _⟩ (fun x34 H locs ix34 ox34 hH hS hF1 => ?_)
          have ox34 : x34.toInt = 0 → ¬ ((x33 >>> (y2 &&& 31)) &&& 1 = 1) := ox34
          have f35 := f27.kept (hF1 _ f27.lt (th_off t0 (by decide)))
          refine lv_if_ne (tgt := 73) hx hb dX11_doesBite_66 (by decide) (fun c36 => ?_) (fun c36 => ?_)
          · skip
            have rlc36 : x34.toInt ≠ (0 : Int) := iv_ne c36
            have ir37 : IV x34 1 1 := iv_cutL ix34 (iv_c (by decide) : IV 0 0 0) c36 (by decide)
            have ir37a := ir37.1; have ir37b := ir37.2
            exact J73 H locs ls  hH hS (lv_sub hl [] rfl)
          · skip
            have rlc36 : x34.toInt = (0 : Int) := congrArg Int32.toInt c36
            have ir38 : IV x34 0 0 := iv_eL c36 (iv_c (by decide) : IV 0 0 0)
            have ir38a := ir38.1; have ir38b := ir38.2
            refine lv_iconst (v := 1) hx hb dX11_doesBite_69 (by decide) ?_
            refine lv_goto (tgt := 74) hx hb dX11_doesBite_70 (by decide) ?_
            exact J74_s0_1 H locs ls  hH hS (lv_sub hl [] rfl)
  exact J0 s.heap [] ls hH va_S.rf hl

set_option maxRecDepth 100000 in
theorem m_X11_hungerOf (l : Launch) (D : va_G) (cT : Nat → ClassId) (T : Nat → Option Nat) (q : Nat → Int) (hT : tokm T) (hq : qkm q) (a0 : Nat) (t0 : T a0 = some 0) (y1 : Int32) (j1 : IV y1 0 3) (hp0 : y1.toInt < q 11) : th_Met l D cT T (km q) yX11_hungerOf cX11_hungerOf 4 (some .int) (rmk 2 46) [.ref a0, .int y1] (th_R T (some (.inl (-2147483648, 99)))) [0, 32] := by
  refine th_start (by decide) (Nat.le_of_ble_eq_true rfl) ?_
  intro p e s m below meth c ls S hK hH hr hlocks hnm hl
  have hx := S.1
  have hb := S.2.1
  have l1y1 := j1.1; have l2y1 := j1.2
  have hl : lv_has ls 4 [(0, .ref a0), (1, .int y1)] := hl
  have J133 : ∀ (H : Heap) (locs : List Loc) (ls : Array Slot) (w133_0 : Int32), IV w133_0 (-2147483648) 99 → th_H D cT T (km q) H → va_S (th_A T [0, 32]) s.heap H locs → lv_has ls 4 [] → W p l e (rmk 2 46) s m [.ref a0, .int y1].toArray below meth c H locs 0 0 (MQ below (th_Q D cT T (km q) (th_R T (some (.inl (-2147483648, 99)))) [0, 32]) [.ref a0, .int y1].toArray s 0 0 (th_A T [0, 32])) (F0 m 133 ls [.int w133_0]) := by
    intro H locs ls w133_0 iw133_0 hH hS hl
    have l1w133_0 := iw133_0.1; have l2w133_0 := iw133_0.2
    exact th_iret S hK hH hS hr hlocks (th_R.i iw133_0) dX11_hungerOf_133
  have J133_s0_99 : ∀ (H : Heap) (locs : List Loc) (ls : Array Slot), th_H D cT T (km q) H → va_S (th_A T [0, 32]) s.heap H locs → lv_has ls 4 [] → W p l e (rmk 2 46) s m [.ref a0, .int y1].toArray below meth c H locs 0 0 (MQ below (th_Q D cT T (km q) (th_R T (some (.inl (-2147483648, 99)))) [0, 32]) [.ref a0, .int y1].toArray s 0 0 (th_A T [0, 32])) (F0 m 133 ls [.int 99]) := by
    intro H locs ls hH hS hl
    exact th_iret S hK hH hS hr hlocks (th_R.i (iv_w (iv_c (by decide) : IV 99 99 99) (by decide))) dX11_hungerOf_133
  have J90 : ∀ (n : Nat) (H : Heap) (locs : List Loc) (ls : Array Slot) (v90_2 : Int32) (v90_3 : Int32), IV v90_2 (-2147483648) 2147483647 → IV v90_3 0 4 → th_H D cT T (km q) H → va_S (th_A T [0, 32]) s.heap H locs → lv_has ls 4 [(0, .ref a0), (1, .int y1), (2, .int v90_2), (3, .int v90_3)] → (4 + 1 - Int32.toInt v90_3).toNat < n → W p l e (rmk 2 46) s m [.ref a0, .int y1].toArray below meth c H locs 0 0 (MQ below (th_Q D cT T (km q) (th_R T (some (.inl (-2147483648, 99)))) [0, 32]) [.ref a0, .int y1].toArray s 0 0 (th_A T [0, 32])) (F0 m 90 ls []) := by
    intro n
    induction n with
    | zero => intro H locs ls v90_2 v90_3 iv90_2 iv90_3 hH hS hl hn; exact absurd hn (Nat.not_lt_zero _)
    | succ n ih90 =>
      intro H locs ls v90_2 v90_3 iv90_2 iv90_3 hH hS hl hn90
      have J113_s1_0 : ∀ (H : Heap) (locs : List Loc) (ls : Array Slot), IV v90_3 0 3 → th_H D cT T (km q) H → va_S (th_A T [0, 32]) s.heap H locs → lv_has ls 4 [(0, .ref a0), (1, .int y1), (3, .int v90_3)] → W p l e (rmk 2 46) s m [.ref a0, .int y1].toArray below meth c H locs 0 0 (MQ below (th_Q D cT T (km q) (th_R T (some (.inl (-2147483648, 99)))) [0, 32]) [.ref a0, .int y1].toArray s 0 0 (th_A T [0, 32])) (F0 m 113 ls [.int 0, .int v90_2]) := by
        intro H locs ls f113_v90_3 hH hS hl
        refine lv_iadd hx hb dX11_hungerOf_113 ?_
        refine lv_topi (fun x1 ex1 => ?_)
        have ix1 : IV x1 (-2147483648) 2147483647 := by rw [ex1]; exact iv_add iv90_2 (iv_c (by decide) : IV 0 0 0) (by decide)
        have ux1 : x1.toInt = v90_2.toInt + (0 : Int) := by rw [ex1]; exact iv_addE (by have z1 := (iv90_2).1; have z2 := (iv90_2).2; have z3 := ((iv_c (by decide) : IV 0 0 0)).1; have z4 := ((iv_c (by decide) : IV 0 0 0)).2; omega)
        refine lv_istore_n (lv' := [(2, .int x1), (0, .ref a0), (1, .int y1), (3, .int v90_3)]) hx hb dX11_hungerOf_114 rfl hl (by decide) rfl (fun ls hl => ?_)
        refine th_iinc S dX11_hungerOf_115 hl (k := 3) rfl (by decide) f113_v90_3 (by decide) (fun x2 ls ex2 ix2 hl => ?_)
        have hl : lv_has ls 4 [(3, .int x2), (2, .int x1), (0, .ref a0), (1, .int y1)] := hl
        have ix2 : IV x2 1 4 := ix2
        refine lv_goto (tgt := 90) hx hb dX11_hungerOf_118 (by decide) ?_
        exact ih90 H locs ls x1 x2 ix1 (iv_w ix2 (by decide)) hH hS (lv_sub hl [2, 3, 1, 0] rfl) (th_up iv90_3 ex2 (by decide) hn90)
      have J113_s1_2 : ∀ (H : Heap) (locs : List Loc) (ls : Array Slot), IV v90_3 0 3 → th_H D cT T (km q) H → va_S (th_A T [0, 32]) s.heap H locs → lv_has ls 4 [(0, .ref a0), (1, .int y1), (3, .int v90_3)] → W p l e (rmk 2 46) s m [.ref a0, .int y1].toArray below meth c H locs 0 0 (MQ below (th_Q D cT T (km q) (th_R T (some (.inl (-2147483648, 99)))) [0, 32]) [.ref a0, .int y1].toArray s 0 0 (th_A T [0, 32])) (F0 m 113 ls [.int 2, .int v90_2]) := by
        intro H locs ls f113_v90_3 hH hS hl
        refine lv_iadd hx hb dX11_hungerOf_113 ?_
        refine lv_topi (fun x3 ex3 => ?_)
        have ix3 := iv_top x3
        refine lv_istore_n (lv' := [(2, .int x3), (0, .ref a0), (1, .int y1), (3, .int v90_3)]) hx hb dX11_hungerOf_114 rfl hl (by decide) rfl (fun ls hl => ?_)
        refine th_iinc S dX11_hungerOf_115 hl (k := 3) rfl (by decide) f113_v90_3 (by decide) (fun x4 ls ex4 ix4 hl => ?_)
        have hl : lv_has ls 4 [(3, .int x4), (2, .int x3), (0, .ref a0), (1, .int y1)] := hl
        have ix4 : IV x4 1 4 := ix4
        refine lv_goto (tgt := 90) hx hb dX11_hungerOf_118 (by decide) ?_
        exact ih90 H locs ls x3 x4 ix3 (iv_w ix4 (by decide)) hH hS (lv_sub hl [2, 3, 1, 0] rfl) (th_up iv90_3 ex4 (by decide) hn90)
      have l1v90_3 := iv90_3.1; have l2v90_3 := iv90_3.2
      refine lv_iload_n hx hb dX11_hungerOf_90 rfl (lv_at hl 3 rfl) ?_
      refine lv_aload_n hx hb dX11_hungerOf_91 rfl (lv_at hl 0 rfl) ?_
      refine th_callVp (n := 0) (As := []) S hK hH hS (th_A.sub (by decide)) (m_X11_many l D cT T q hT hq a0 t0) gm_1229 gm_1226 gm_1228 gm_46 gm_124 (by decide +kernel) ⟨rfl, rfl, Nat.le_of_ble_eq_true rfl, Nat.le_of_ble_eq_true rfl⟩ t0 km_0 rfl rfl hl.1 rfl (Nat.le_of_ble_eq_true rfl) dX11_hungerOf_92 ⟨Nat.zero_le _, Nat.zero_le _⟩ (fun x5 H locs ix5 ox5 hH hS hF1 => ?_)
      have ox5 : x5.toInt = q 11 := ox5
      refine lv_icmp_ge (tgt := 121) hx hb dX11_hungerOf_95 (by decide) (fun c6 => ?_) (fun c6 => ?_)
      · skip
        have rlc6 : x5.toInt ≤ v90_3.toInt := iv_le c6
        refine lv_iload_n hx hb dX11_hungerOf_121 rfl (lv_at hl 2 rfl) ?_
        refine lv_bipush (v := 99) hx hb dX11_hungerOf_122 (by decide) ?_
        refine lv_icmp_le (tgt := 132) hx hb dX11_hungerOf_124 (by decide) (fun c7 => ?_) (fun c7 => ?_)
        · skip
          have rlc7 : v90_2.toInt ≤ (99 : Int) := iv_le c7
          have ir8 : IV v90_2 (-2147483648) 99 := iv_vL iv90_2 (iv_c (by decide) : IV 99 99 99) (iv_le c7) (by decide)
          have ir8a := ir8.1; have ir8b := ir8.2
          refine lv_iload_n hx hb dX11_hungerOf_132 rfl (lv_at hl 2 rfl) ?_
          exact J133 H locs ls v90_2 ir8 hH hS (lv_sub hl [] rfl)
        · skip
          have rlc7 : (99 : Int) < v90_2.toInt := iv_nle c7
          have ir9 : IV v90_2 100 2147483647 := iv_uR (iv_c (by decide) : IV 99 99 99) iv90_2 (iv_nle c7) (by decide)
          have ir9a := ir9.1; have ir9b := ir9.2
          refine lv_bipush (v := 99) hx hb dX11_hungerOf_127 (by decide) ?_
          refine lv_goto (tgt := 133) hx hb dX11_hungerOf_129 (by decide) ?_
          exact J133_s0_99 H locs ls  hH hS (lv_sub hl [] rfl)
      · skip
        have rlc6 : v90_3.toInt < x5.toInt := iv_nle c6
        have ir10 : IV v90_3 0 3 := iv_uL iv90_3 ix5 (iv_nle c6) (by decide)
        have ir10a := ir10.1; have ir10b := ir10.2
        have ir11 : IV x5 1 4 := iv_uR iv90_3 ix5 (iv_nle c6) (by decide)
        have ir11a := ir11.1; have ir11b := ir11.2
        refine lv_iload_n hx hb dX11_hungerOf_98 rfl (lv_at hl 2 rfl) ?_
        refine lv_aload_n hx hb dX11_hungerOf_99 rfl (lv_at hl 0 rfl) ?_
        refine lv_iload_n hx hb dX11_hungerOf_100 rfl (lv_at hl 1 rfl) ?_
        refine lv_iload_n hx hb dX11_hungerOf_101 rfl (lv_at hl 3 rfl) ?_
        refine th_callVi (n := 2) (As := [.int y1, .int v90_3]) S hK hH hS (th_A.sub (by decide)) (m_X11_doesBite l D cT T q hT hq a0 t0 (y1) j1 (v90_3) ir10) gm_1648 gm_1645 gm_1647 gm_84 gm_124 (by decide +kernel) ⟨rfl, rfl, Nat.le_of_ble_eq_true rfl, Nat.le_of_ble_eq_true rfl⟩ t0 km_0 rfl rfl hl.1 rfl (Nat.le_of_ble_eq_true rfl) dX11_hungerOf_102 ⟨Nat.zero_le _, Nat.zero_le _⟩ (fun x12 H locs ix12 hH hS hF1 => ?_)
        refine lv_if_eq (tgt := 112) hx hb dX11_hungerOf_105 (by decide) (fun c13 => ?_) (fun c13 => ?_)
        · skip
          have rlc13 : x12.toInt = (0 : Int) := congrArg Int32.toInt c13
          have ir14 : IV x12 0 0 := iv_eL c13 (iv_c (by decide) : IV 0 0 0)
          have ir14a := ir14.1; have ir14b := ir14.2
          refine lv_iconst (v := 0) hx hb dX11_hungerOf_112 (by decide) ?_
          exact J113_s1_0 H locs ls ir10 hH hS (lv_sub hl [0, 1, 3] rfl)
        · skip
          have rlc13 : x12.toInt ≠ (0 : Int) := iv_ne c13
          have ir15 : IV x12 1 1 := iv_cutL ix12 (iv_c (by decide) : IV 0 0 0) c13 (by decide)
          have ir15a := ir15.1; have ir15b := ir15.2
          refine lv_iconst (v := 2) hx hb dX11_hungerOf_108 (by decide) ?_
          refine lv_goto (tgt := 113) hx hb dX11_hungerOf_109 (by decide) ?_
          exact J113_s1_2 H locs ls ir10 hH hS (lv_sub hl [0, 1, 3] rfl)
  have J87 : ∀ (H : Heap) (locs : List Loc) (ls : Array Slot) (w87_0 : Int32), IV w87_0 0 99 → th_H D cT T (km q) H → va_S (th_A T [0, 32]) s.heap H locs → lv_has ls 4 [(0, .ref a0), (1, .int y1)] → W p l e (rmk 2 46) s m [.ref a0, .int y1].toArray below meth c H locs 0 0 (MQ below (th_Q D cT T (km q) (th_R T (some (.inl (-2147483648, 99)))) [0, 32]) [.ref a0, .int y1].toArray s 0 0 (th_A T [0, 32])) (F0 m 87 ls [.int w87_0]) := by
    intro H locs ls w87_0 iw87_0 hH hS hl
    have l1w87_0 := iw87_0.1; have l2w87_0 := iw87_0.2
    refine lv_istore_n (lv' := [(2, .int w87_0), (0, .ref a0), (1, .int y1)]) hx hb dX11_hungerOf_87 rfl hl (by decide) rfl (fun ls hl => ?_)
    refine lv_iconst (v := 0) hx hb dX11_hungerOf_88 (by decide) ?_
    refine lv_istore_n (lv' := [(3, .int 0), (2, .int w87_0), (0, .ref a0), (1, .int y1)]) hx hb dX11_hungerOf_89 rfl hl (by decide) rfl (fun ls hl => ?_)
    exact J90 ((4 + 1 - Int32.toInt 0).toNat + 1) H locs ls w87_0 0 (iv_top _) (iv_w (iv_c (by decide) : IV 0 0 0) (by decide)) hH hS (lv_sub hl [2, 3, 1, 0] rfl) (Nat.lt_succ_self _)
  have J87_s0_0 : ∀ (H : Heap) (locs : List Loc) (ls : Array Slot), th_H D cT T (km q) H → va_S (th_A T [0, 32]) s.heap H locs → lv_has ls 4 [(0, .ref a0), (1, .int y1)] → W p l e (rmk 2 46) s m [.ref a0, .int y1].toArray below meth c H locs 0 0 (MQ below (th_Q D cT T (km q) (th_R T (some (.inl (-2147483648, 99)))) [0, 32]) [.ref a0, .int y1].toArray s 0 0 (th_A T [0, 32])) (F0 m 87 ls [.int 0]) := by
    intro H locs ls hH hS hl
    refine lv_istore_n (lv' := [(2, .int 0), (0, .ref a0), (1, .int y1)]) hx hb dX11_hungerOf_87 rfl hl (by decide) rfl (fun ls hl => ?_)
    refine lv_iconst (v := 0) hx hb dX11_hungerOf_88 (by decide) ?_
    refine lv_istore_n (lv' := [(3, .int 0), (2, .int 0), (0, .ref a0), (1, .int y1)]) hx hb dX11_hungerOf_89 rfl hl (by decide) rfl (fun ls hl => ?_)
    exact J90 ((4 + 1 - Int32.toInt 0).toNat + 1) H locs ls 0 0 (iv_top _) (iv_w (iv_c (by decide) : IV 0 0 0) (by decide)) hH hS (lv_sub hl [2, 3, 1, 0] rfl) (Nat.lt_succ_self _)
  have J87_s0_99 : ∀ (H : Heap) (locs : List Loc) (ls : Array Slot), th_H D cT T (km q) H → va_S (th_A T [0, 32]) s.heap H locs → lv_has ls 4 [(0, .ref a0), (1, .int y1)] → W p l e (rmk 2 46) s m [.ref a0, .int y1].toArray below meth c H locs 0 0 (MQ below (th_Q D cT T (km q) (th_R T (some (.inl (-2147483648, 99)))) [0, 32]) [.ref a0, .int y1].toArray s 0 0 (th_A T [0, 32])) (F0 m 87 ls [.int 99]) := by
    intro H locs ls hH hS hl
    refine lv_istore_n (lv' := [(2, .int 99), (0, .ref a0), (1, .int y1)]) hx hb dX11_hungerOf_87 rfl hl (by decide) rfl (fun ls hl => ?_)
    refine lv_iconst (v := 0) hx hb dX11_hungerOf_88 (by decide) ?_
    refine lv_istore_n (lv' := [(3, .int 0), (2, .int 99), (0, .ref a0), (1, .int y1)]) hx hb dX11_hungerOf_89 rfl hl (by decide) rfl (fun ls hl => ?_)
    exact J90 ((4 + 1 - Int32.toInt 0).toNat + 1) H locs ls 99 0 (iv_top _) (iv_w (iv_c (by decide) : IV 0 0 0) (by decide)) hH hS (lv_sub hl [2, 3, 1, 0] rfl) (Nat.lt_succ_self _)
  have J0 : ∀ (H : Heap) (locs : List Loc) (ls : Array Slot), th_H D cT T (km q) H → va_S (th_A T [0, 32]) s.heap H locs → lv_has ls 4 [(0, .ref a0), (1, .int y1)] → W p l e (rmk 2 46) s m [.ref a0, .int y1].toArray below meth c H locs 0 0 (MQ below (th_Q D cT T (km q) (th_R T (some (.inl (-2147483648, 99)))) [0, 32]) [.ref a0, .int y1].toArray s 0 0 (th_A T [0, 32])) (F0 m 0 ls []) := by
    intro H locs ls hH hS hl
    refine lv_aload_n hx hb dX11_hungerOf_0 rfl (lv_at hl 0 rfl) ?_
    refine th_get S hK hH inG11 t0 km_0 rfl 52 (by decide) gm_1282 rfl rfl dX11_hungerOf_1 (fun v16 hv16 fv16 => ?_)
    obtain ⟨rf17, rfl, trf17⟩ := th_V.ref hv16
    refine lv_bipush (v := 39) hx hb dX11_hungerOf_4 (by decide) ?_
    refine th_iald S hK hH trf17 km_33 (th_in (hi := 39) (iv_w (iv_c (by decide) : IV 39 39 39) (by decide)) (by decide)) dX11_hungerOf_6 (fun v18 hv18 => ?_)
    obtain ⟨x19, rfl, ix19⟩ := th_V.int hv18
    refine lv_iload_n hx hb dX11_hungerOf_7 rfl (lv_at hl 1 rfl) ?_
    refine th_callSp (n := 2) (As := [.int x19, .int y1]) S hK hH hS (th_A.sub (by decide)) (m_X11_has l D cT T q hT hq (x19) ix19 (y1) (iv_top _)) gm_1633 gm_1631 gm_1632 gm_124 (by decide +kernel) ⟨rfl, rfl, Nat.le_of_ble_eq_true rfl, Nat.le_of_ble_eq_true rfl⟩ rfl hl.1 rfl (Nat.le_of_ble_eq_true rfl) dX11_hungerOf_8 ⟨Nat.zero_le _, Nat.zero_le _⟩ (fun x20 H locs ix20 ox20 hH hS hF1 => ?_)
    have ox20 : x20.toInt = 0 → ¬ ((x19 >>> (y1 &&& 31)) &&& 1 = 1) := ox20
    have f21 := fv16.kept (hF1 _ fv16.lt (th_off t0 (by decide)))
    refine lv_if_eq (tgt := 16) hx hb dX11_hungerOf_11 (by decide) (fun c22 => ?_) (fun c22 => ?_)
    · skip
      have rlc22 : x20.toInt = (0 : Int) := congrArg Int32.toInt c22
      have ir23 : IV x20 0 0 := iv_eL c22 (iv_c (by decide) : IV 0 0 0)
      have ir23a := ir23.1; have ir23b := ir23.2
      refine lv_aload_n hx hb dX11_hungerOf_16 rfl (lv_at hl 0 rfl) ?_
      refine lv_aload_n hx hb dX11_hungerOf_17 rfl (lv_at hl 0 rfl) ?_
      refine th_get S hK hH inG11 t0 km_0 rfl 19 (by decide) gm_1249 rfl rfl dX11_hungerOf_18 (fun v24 hv24 fv24 => ?_)
      obtain ⟨rf25, rfl, trf25⟩ := th_V.ref hv24
      refine lv_iconst (v := 4) hx hb dX11_hungerOf_21 (by decide) ?_
      refine lv_aload_n hx hb dX11_hungerOf_22 rfl (lv_at hl 0 rfl) ?_
      refine th_get S hK hH inG11 t0 km_0 rfl 41 (by decide) gm_1271 rfl rfl dX11_hungerOf_23 (fun v26 hv26 fv26 => ?_)
      obtain ⟨x27, rfl, ix27⟩ := th_V.int hv26
      have kx27a : q 10 ≤ x27.toInt := ix27.1
      have kx27b : x27.toInt ≤ q 10 := ix27.2
      have ix27 : IV x27 0 1 := iv_w ix27 (qkm_10 hq)
      refine lv_imul hx hb dX11_hungerOf_26 ?_
      refine lv_topi (fun x28 ex28 => ?_)
      have ix28 : IV x28 0 4 := by rw [ex28]; exact iv_mul (iv_c (by decide) : IV 4 4 4) ix27 (by decide) (by decide)
      have ux28 : x28.toInt = (4 : Int) * x27.toInt := by rw [ex28]; exact iv_mulE (iv_corner ((iv_c (by decide) : IV 4 4 4)).1 ((iv_c (by decide) : IV 4 4 4)).2 (ix27).1 (ix27).2 (by decide))
      refine lv_iload_n hx hb dX11_hungerOf_27 rfl (lv_at hl 1 rfl) ?_
      refine lv_iadd hx hb dX11_hungerOf_28 ?_
      refine lv_topi (fun x29 ex29 => ?_)
      have ix29 : IV x29 0 7 := by rw [ex29]; exact iv_add ix28 j1 (by decide)
      have ux29 : x29.toInt = x28.toInt + y1.toInt := by rw [ex29]; exact iv_addE (by have z1 := (ix28).1; have z2 := (ix28).2; have z3 := (j1).1; have z4 := (j1).2; omega)
      refine th_iald S hK hH trf25 km_11 (th_in (hi := 7) ix29 (by decide)) dX11_hungerOf_29 (fun v30 hv30 => ?_)
      obtain ⟨x31, rfl, ix31⟩ := th_V.int hv30
      refine th_put S hK hH hS ⟨0, by decide, t0⟩ inG11 tyX11 tyX11_ok nmX11 t0 km_0 rfl 47 (by decide) gm_1277 rfl rfl rfl rfl (th_iv ix31) (fun vs h => nmR_set h.2.2 (by decide) rfl) (ty := .int) (by decide +kernel) rfl rfl dX11_hungerOf_30 (fun H locs hH hS hq1 hp1 => ?_)
      have f32 := hp1.2 52 _ (by decide) (by decide) f21
      refine lv_aload_n hx hb dX11_hungerOf_33 rfl (lv_at hl 0 rfl) ?_
      refine lv_aload_n hx hb dX11_hungerOf_34 rfl (lv_at hl 0 rfl) ?_
      refine th_getK S hK f32 inG11 rfl (by decide) gm_1282 rfl dX11_hungerOf_35 ?_
      refine lv_bipush (v := 31) hx hb dX11_hungerOf_38 (by decide) ?_
      refine lv_iload_n hx hb dX11_hungerOf_40 rfl (lv_at hl 1 rfl) ?_
      refine lv_iadd hx hb dX11_hungerOf_41 ?_
      refine lv_topi (fun x34 ex34 => ?_)
      have ix34 : IV x34 31 34 := by rw [ex34]; exact iv_add (iv_c (by decide) : IV 31 31 31) j1 (by decide)
      have ux34 : x34.toInt = (31 : Int) + y1.toInt := by rw [ex34]; exact iv_addE (by have z1 := ((iv_c (by decide) : IV 31 31 31)).1; have z2 := ((iv_c (by decide) : IV 31 31 31)).2; have z3 := (j1).1; have z4 := (j1).2; omega)
      refine th_iald S hK hH trf17 km_33 (th_in (hi := 34) (iv_w ix34 (by decide)) (by decide)) dX11_hungerOf_42 (fun v35 hv35 => ?_)
      obtain ⟨x36, rfl, ix36⟩ := th_V.int hv35
      refine th_put S hK hH hS ⟨0, by decide, t0⟩ inG11 tyX11 tyX11_ok nmX11 t0 km_0 rfl 48 (by decide) gm_1278 rfl rfl rfl rfl (th_iv ix36) (fun vs h => nmR_set h.2.2 (by decide) rfl) (ty := .int) (by decide +kernel) rfl rfl dX11_hungerOf_43 (fun H locs hH hS hq1 hp1 => ?_)
      have f37 := hp1.2 52 _ (by decide) (by decide) f32
      refine lv_aload_n hx hb dX11_hungerOf_46 rfl (lv_at hl 0 rfl) ?_
      refine lv_iconst (v := 0) hx hb dX11_hungerOf_47 (by decide) ?_
      refine th_put S hK hH hS ⟨0, by decide, t0⟩ inG11 tyX11 tyX11_ok nmX11 t0 km_0 rfl 49 (by decide) gm_1279 rfl rfl rfl rfl (th_iv (iv_top _)) (fun vs h => nmR_set h.2.2 (by decide) rfl) (ty := .int) (by decide +kernel) rfl rfl dX11_hungerOf_48 (fun H locs hH hS hq1 hp1 => ?_)
      have f38 := hp1.2 52 _ (by decide) (by decide) f37
      refine lv_aload_n hx hb dX11_hungerOf_51 rfl (lv_at hl 0 rfl) ?_
      refine lv_iconst (v := 0) hx hb dX11_hungerOf_52 (by decide) ?_
      refine th_put S hK hH hS ⟨0, by decide, t0⟩ inG11 tyX11 tyX11_ok nmX11 t0 km_0 rfl 50 (by decide) gm_1280 rfl rfl rfl rfl (th_iv (iv_top _)) (fun vs h => nmR_set h.2.2 (by decide) rfl) (ty := .int) (by decide +kernel) rfl rfl dX11_hungerOf_53 (fun H locs hH hS hq1 hp1 => ?_)
      have f39 := hp1.2 52 _ (by decide) (by decide) f38
      refine lv_aload_n hx hb dX11_hungerOf_56 rfl (lv_at hl 0 rfl) ?_
      refine lv_iconst (v := 0) hx hb dX11_hungerOf_57 (by decide) ?_
      refine th_put S hK hH hS ⟨0, by decide, t0⟩ inG11 tyX11 tyX11_ok nmX11 t0 km_0 rfl 51 (by decide) gm_1281 rfl rfl rfl rfl (th_iv (iv_top _)) (fun vs h => nmR_set h.2.2 (by decide) rfl) (ty := .int) (by decide +kernel) rfl rfl dX11_hungerOf_58 (fun H locs hH hS hq1 hp1 => ?_)
      have f40 := hp1.2 52 _ (by decide) (by decide) f39
      refine lv_aload_n hx hb dX11_hungerOf_61 rfl (lv_at hl 0 rfl) ?_
      refine lv_iload_n hx hb dX11_hungerOf_62 rfl (lv_at hl 1 rfl) ?_
      refine th_callVi (n := 1) (As := [.int y1]) S hK hH hS (th_A.sub (by decide)) (m_X11_comes l D cT T q hT hq a0 t0 (y1) (iv_w j1 (by decide)) (show y1.toInt < q 11 ∨ (y1.toInt = 4 ∧ q 12 = 1) by omega)) gm_1637 gm_1634 gm_1636 gm_82 gm_124 (by decide +kernel) ⟨rfl, rfl, Nat.le_of_ble_eq_true rfl, Nat.le_of_ble_eq_true rfl⟩ t0 km_0 rfl rfl hl.1 rfl (Nat.le_of_ble_eq_true rfl) dX11_hungerOf_63 ⟨Nat.zero_le _, Nat.zero_le _⟩ (fun x41 H locs ix41 hH hS hF1 => ?_)
      have f42 := f40.kept (hF1 _ f40.lt (th_off t0 (by decide)))
      refine lv_istore_n (lv' := [(2, .int x41), (0, .ref a0), (1, .int y1)]) hx hb dX11_hungerOf_66 rfl hl (by decide) rfl (fun ls hl => ?_)
      refine lv_iload_n hx hb dX11_hungerOf_67 rfl (lv_at hl 0 rfl) ?_
      refine lv_if_ge (tgt := 75) hx hb dX11_hungerOf_68 (by decide) (fun c43 => ?_) (fun c43 => ?_)
      · skip
        have rlc43 : (0 : Int) ≤ x41.toInt := iv_le c43
        have ir44 : IV x41 0 2147483647 := iv_vR (iv_c (by decide) : IV 0 0 0) ix41 (iv_le c43) (by decide)
        have ir44a := ir44.1; have ir44b := ir44.2
        refine lv_iload_n hx hb dX11_hungerOf_75 rfl (lv_at hl 0 rfl) ?_
        refine lv_bipush (v := 99) hx hb dX11_hungerOf_76 (by decide) ?_
        refine lv_icmp_le (tgt := 86) hx hb dX11_hungerOf_78 (by decide) (fun c45 => ?_) (fun c45 => ?_)
        · skip
          have rlc45 : x41.toInt ≤ (99 : Int) := iv_le c45
          have ir46 : IV x41 0 99 := iv_vL ir44 (iv_c (by decide) : IV 99 99 99) (iv_le c45) (by decide)
          have ir46a := ir46.1; have ir46b := ir46.2
          refine lv_iload_n hx hb dX11_hungerOf_86 rfl (lv_at hl 0 rfl) ?_
          exact J87 H locs ls x41 ir46 hH hS (lv_sub hl [1, 2] rfl)
        · skip
          have rlc45 : (99 : Int) < x41.toInt := iv_nle c45
          have ir47 : IV x41 100 2147483647 := iv_uR (iv_c (by decide) : IV 99 99 99) ir44 (iv_nle c45) (by decide)
          have ir47a := ir47.1; have ir47b := ir47.2
          refine lv_bipush (v := 99) hx hb dX11_hungerOf_81 (by decide) ?_
          refine lv_goto (tgt := 87) hx hb dX11_hungerOf_83 (by decide) ?_
          exact J87_s0_99 H locs ls  hH hS (lv_sub hl [1, 2] rfl)
      · skip
        have rlc43 : x41.toInt < (0 : Int) := iv_nle c43
        have ir48 : IV x41 (-2147483648) (-1) := iv_uL ix41 (iv_c (by decide) : IV 0 0 0) (iv_nle c43) (by decide)
        have ir48a := ir48.1; have ir48b := ir48.2
        refine lv_iconst (v := 0) hx hb dX11_hungerOf_71 (by decide) ?_
        refine lv_goto (tgt := 87) hx hb dX11_hungerOf_72 (by decide) ?_
        exact J87_s0_0 H locs ls  hH hS (lv_sub hl [1, 2] rfl)
    · skip
      have rlc22 : x20.toInt ≠ (0 : Int) := iv_ne c22
      have ir49 : IV x20 1 1 := iv_cutL ix20 (iv_c (by decide) : IV 0 0 0) c22 (by decide)
      have ir49a := ir49.1; have ir49b := ir49.2
      refine lv_iconst (v := 0) hx hb dX11_hungerOf_14 (by decide) ?_
      exact th_iret S hK hH hS hr hlocks (th_R.i (iv_w (iv_c (by decide) : IV 0 0 0) (by decide))) dX11_hungerOf_15
  exact J0 s.heap [] ls hH va_S.rf hl
