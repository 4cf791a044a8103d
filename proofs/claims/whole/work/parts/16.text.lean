/-! by program (wip/whole/gen.py): pure functions and contracts -/
theorem dX5_isTold_0 : decode cX5_isTold 0 = .ok (.aload_n 0, 1) := by decide +kernel
theorem dX5_isTold_1 : decode cX5_isTold 1 = .ok (.getfield 34, 3) := by decide +kernel
theorem dX5_isTold_4 : decode cX5_isTold 4 = .ok (.ifCond .le 7, 3) := by decide +kernel
theorem dX5_isTold_7 : decode cX5_isTold 7 = .ok (.iconst 1, 1) := by decide +kernel
theorem dX5_isTold_8 : decode cX5_isTold 8 = .ok (.goto 4, 3) := by decide +kernel
theorem dX5_isTold_11 : decode cX5_isTold 11 = .ok (.iconst 0, 1) := by decide +kernel
theorem dX5_isTold_12 : decode cX5_isTold 12 = .ok (.ireturn, 1) := by decide +kernel
theorem dX5_push_0 : decode cX5_push 0 = .ok (.aload_n 0, 1) := by decide +kernel
theorem dX5_push_1 : decode cX5_push 1 = .ok (.getfield 45, 3) := by decide +kernel
theorem dX5_push_4 : decode cX5_push 4 = .ok (.aload_n 0, 1) := by decide +kernel
theorem dX5_push_5 : decode cX5_push 5 = .ok (.getfield 27, 3) := by decide +kernel
theorem dX5_push_8 : decode cX5_push 8 = .ok (.arraylength, 1) := by decide +kernel
theorem dX5_push_9 : decode cX5_push 9 = .ok (.if_icmp .ge 23, 3) := by decide +kernel
theorem dX5_push_12 : decode cX5_push 12 = .ok (.aload_n 0, 1) := by decide +kernel
theorem dX5_push_13 : decode cX5_push 13 = .ok (.getfield 27, 3) := by decide +kernel
theorem dX5_push_16 : decode cX5_push 16 = .ok (.aload_n 0, 1) := by decide +kernel
theorem dX5_push_17 : decode cX5_push 17 = .ok (.getfield 45, 3) := by decide +kernel
theorem dX5_push_20 : decode cX5_push 20 = .ok (.iload_n 1, 1) := by decide +kernel
theorem dX5_push_21 : decode cX5_push 21 = .ok (.iastore, 1) := by decide +kernel
theorem dX5_push_22 : decode cX5_push 22 = .ok (.aload_n 0, 1) := by decide +kernel
theorem dX5_push_23 : decode cX5_push 23 = .ok (.dup, 1) := by decide +kernel
theorem dX5_push_24 : decode cX5_push 24 = .ok (.getfield 45, 3) := by decide +kernel
theorem dX5_push_27 : decode cX5_push 27 = .ok (.iconst 1, 1) := by decide +kernel
theorem dX5_push_28 : decode cX5_push 28 = .ok (.iadd, 1) := by decide +kernel
theorem dX5_push_29 : decode cX5_push 29 = .ok (.putfield 45, 3) := by decide +kernel
theorem dX5_push_32 : decode cX5_push 32 = .ok (.return_, 1) := by decide +kernel
theorem dX5_pop_0 : decode cX5_pop 0 = .ok (.aload_n 0, 1) := by decide +kernel
theorem dX5_pop_1 : decode cX5_pop 1 = .ok (.getfield 45, 3) := by decide +kernel
theorem dX5_pop_4 : decode cX5_pop 4 = .ok (.ifCond .gt 5, 3) := by decide +kernel
theorem dX5_pop_7 : decode cX5_pop 7 = .ok (.iconst 0, 1) := by decide +kernel
theorem dX5_pop_8 : decode cX5_pop 8 = .ok (.ireturn, 1) := by decide +kernel
theorem dX5_pop_9 : decode cX5_pop 9 = .ok (.aload_n 0, 1) := by decide +kernel
theorem dX5_pop_10 : decode cX5_pop 10 = .ok (.dup, 1) := by decide +kernel
theorem dX5_pop_11 : decode cX5_pop 11 = .ok (.getfield 45, 3) := by decide +kernel
theorem dX5_pop_14 : decode cX5_pop 14 = .ok (.iconst 1, 1) := by decide +kernel
theorem dX5_pop_15 : decode cX5_pop 15 = .ok (.isub, 1) := by decide +kernel
theorem dX5_pop_16 : decode cX5_pop 16 = .ok (.putfield 45, 3) := by decide +kernel
theorem dX5_pop_19 : decode cX5_pop 19 = .ok (.aload_n 0, 1) := by decide +kernel
theorem dX5_pop_20 : decode cX5_pop 20 = .ok (.getfield 27, 3) := by decide +kernel
theorem dX5_pop_23 : decode cX5_pop 23 = .ok (.aload_n 0, 1) := by decide +kernel
theorem dX5_pop_24 : decode cX5_pop 24 = .ok (.getfield 45, 3) := by decide +kernel
theorem dX5_pop_27 : decode cX5_pop 27 = .ok (.iaload, 1) := by decide +kernel
theorem dX5_pop_28 : decode cX5_pop 28 = .ok (.ireturn, 1) := by decide +kernel
theorem dX5_named_0 : decode cX5_named 0 = .ok (.iload_n 0, 1) := by decide +kernel
theorem dX5_named_1 : decode cX5_named 1 = .ok (.lookupswitch 52 #[(97, 43), (98, 45), (103, 47), (112, 49)], 43) := by decide +kernel
theorem dX5_named_44 : decode cX5_named 44 = .ok (.iload_n 1, 1) := by decide +kernel
theorem dX5_named_45 : decode cX5_named 45 = .ok (.ireturn, 1) := by decide +kernel
theorem dX5_named_46 : decode cX5_named 46 = .ok (.iload_n 2, 1) := by decide +kernel
theorem dX5_named_47 : decode cX5_named 47 = .ok (.ireturn, 1) := by decide +kernel
theorem dX5_named_48 : decode cX5_named 48 = .ok (.iload_n 3, 1) := by decide +kernel
theorem dX5_named_49 : decode cX5_named 49 = .ok (.ireturn, 1) := by decide +kernel
theorem dX5_named_50 : decode cX5_named 50 = .ok (.iload 4, 2) := by decide +kernel
theorem dX5_named_52 : decode cX5_named 52 = .ok (.ireturn, 1) := by decide +kernel
theorem dX5_named_53 : decode cX5_named 53 = .ok (.iload 5, 2) := by decide +kernel
theorem dX5_named_55 : decode cX5_named 55 = .ok (.ireturn, 1) := by decide +kernel
theorem dX5_joined_0 : decode cX5_joined 0 = .ok (.iload_n 0, 1) := by decide +kernel
theorem dX5_joined_1 : decode cX5_joined 1 = .ok (.lookupswitch 188 #[(37, 176), (38, 105), (42, 160), (43, 152), (45, 156), (47, 164), (60, 119), (61, 130), (62, 141), (124, 91)], 91) := by decide +kernel
theorem dX5_joined_92 : decode cX5_joined 92 = .ok (.iload_n 1, 1) := by decide +kernel
theorem dX5_joined_93 : decode cX5_joined 93 = .ok (.ifCond .ne 7, 3) := by decide +kernel
theorem dX5_joined_96 : decode cX5_joined 96 = .ok (.iload_n 2, 1) := by decide +kernel
theorem dX5_joined_97 : decode cX5_joined 97 = .ok (.ifCond .eq 7, 3) := by decide +kernel
theorem dX5_joined_100 : decode cX5_joined 100 = .ok (.iconst 1, 1) := by decide +kernel
theorem dX5_joined_101 : decode cX5_joined 101 = .ok (.goto 4, 3) := by decide +kernel
theorem dX5_joined_104 : decode cX5_joined 104 = .ok (.iconst 0, 1) := by decide +kernel
theorem dX5_joined_105 : decode cX5_joined 105 = .ok (.ireturn, 1) := by decide +kernel
theorem dX5_joined_106 : decode cX5_joined 106 = .ok (.iload_n 1, 1) := by decide +kernel
theorem dX5_joined_107 : decode cX5_joined 107 = .ok (.ifCond .eq 11, 3) := by decide +kernel
theorem dX5_joined_110 : decode cX5_joined 110 = .ok (.iload_n 2, 1) := by decide +kernel
theorem dX5_joined_111 : decode cX5_joined 111 = .ok (.ifCond .eq 7, 3) := by decide +kernel
theorem dX5_joined_114 : decode cX5_joined 114 = .ok (.iconst 1, 1) := by decide +kernel
theorem dX5_joined_115 : decode cX5_joined 115 = .ok (.goto 4, 3) := by decide +kernel
theorem dX5_joined_118 : decode cX5_joined 118 = .ok (.iconst 0, 1) := by decide +kernel
theorem dX5_joined_119 : decode cX5_joined 119 = .ok (.ireturn, 1) := by decide +kernel
theorem dX5_joined_120 : decode cX5_joined 120 = .ok (.iload_n 1, 1) := by decide +kernel
theorem dX5_joined_121 : decode cX5_joined 121 = .ok (.iload_n 2, 1) := by decide +kernel
theorem dX5_joined_122 : decode cX5_joined 122 = .ok (.if_icmp .ge 7, 3) := by decide +kernel
theorem dX5_joined_125 : decode cX5_joined 125 = .ok (.iconst 1, 1) := by decide +kernel
theorem dX5_joined_126 : decode cX5_joined 126 = .ok (.goto 4, 3) := by decide +kernel
theorem dX5_joined_129 : decode cX5_joined 129 = .ok (.iconst 0, 1) := by decide +kernel
theorem dX5_joined_130 : decode cX5_joined 130 = .ok (.ireturn, 1) := by decide +kernel
theorem dX5_joined_131 : decode cX5_joined 131 = .ok (.iload_n 1, 1) := by decide +kernel
theorem dX5_joined_132 : decode cX5_joined 132 = .ok (.iload_n 2, 1) := by decide +kernel
theorem dX5_joined_133 : decode cX5_joined 133 = .ok (.if_icmp .ne 7, 3) := by decide +kernel
theorem dX5_joined_136 : decode cX5_joined 136 = .ok (.iconst 1, 1) := by decide +kernel
theorem dX5_joined_137 : decode cX5_joined 137 = .ok (.goto 4, 3) := by decide +kernel
theorem dX5_joined_140 : decode cX5_joined 140 = .ok (.iconst 0, 1) := by decide +kernel
theorem dX5_joined_141 : decode cX5_joined 141 = .ok (.ireturn, 1) := by decide +kernel
theorem dX5_joined_142 : decode cX5_joined 142 = .ok (.iload_n 1, 1) := by decide +kernel
theorem dX5_joined_143 : decode cX5_joined 143 = .ok (.iload_n 2, 1) := by decide +kernel
theorem dX5_joined_144 : decode cX5_joined 144 = .ok (.if_icmp .le 7, 3) := by decide +kernel
theorem dX5_joined_147 : decode cX5_joined 147 = .ok (.iconst 1, 1) := by decide +kernel
theorem dX5_joined_148 : decode cX5_joined 148 = .ok (.goto 4, 3) := by decide +kernel
theorem dX5_joined_151 : decode cX5_joined 151 = .ok (.iconst 0, 1) := by decide +kernel
theorem dX5_joined_152 : decode cX5_joined 152 = .ok (.ireturn, 1) := by decide +kernel
theorem dX5_joined_153 : decode cX5_joined 153 = .ok (.iload_n 1, 1) := by decide +kernel
theorem dX5_joined_154 : decode cX5_joined 154 = .ok (.iload_n 2, 1) := by decide +kernel
theorem dX5_joined_155 : decode cX5_joined 155 = .ok (.iadd, 1) := by decide +kernel
theorem dX5_joined_156 : decode cX5_joined 156 = .ok (.ireturn, 1) := by decide +kernel
theorem dX5_joined_157 : decode cX5_joined 157 = .ok (.iload_n 1, 1) := by decide +kernel
theorem dX5_joined_158 : decode cX5_joined 158 = .ok (.iload_n 2, 1) := by decide +kernel
theorem dX5_joined_159 : decode cX5_joined 159 = .ok (.isub, 1) := by decide +kernel
theorem dX5_joined_160 : decode cX5_joined 160 = .ok (.ireturn, 1) := by decide +kernel
theorem dX5_joined_161 : decode cX5_joined 161 = .ok (.iload_n 1, 1) := by decide +kernel
theorem dX5_joined_162 : decode cX5_joined 162 = .ok (.iload_n 2, 1) := by decide +kernel
theorem dX5_joined_163 : decode cX5_joined 163 = .ok (.imul, 1) := by decide +kernel
theorem dX5_joined_164 : decode cX5_joined 164 = .ok (.ireturn, 1) := by decide +kernel
theorem dX5_joined_165 : decode cX5_joined 165 = .ok (.iload_n 2, 1) := by decide +kernel
theorem dX5_joined_166 : decode cX5_joined 166 = .ok (.ifCond .ne 7, 3) := by decide +kernel
theorem dX5_joined_169 : decode cX5_joined 169 = .ok (.iconst 0, 1) := by decide +kernel
theorem dX5_joined_170 : decode cX5_joined 170 = .ok (.goto 6, 3) := by decide +kernel
theorem dX5_joined_173 : decode cX5_joined 173 = .ok (.iload_n 1, 1) := by decide +kernel
theorem dX5_joined_174 : decode cX5_joined 174 = .ok (.iload_n 2, 1) := by decide +kernel
theorem dX5_joined_175 : decode cX5_joined 175 = .ok (.idiv, 1) := by decide +kernel
theorem dX5_joined_176 : decode cX5_joined 176 = .ok (.ireturn, 1) := by decide +kernel
theorem dX5_joined_177 : decode cX5_joined 177 = .ok (.iload_n 2, 1) := by decide +kernel
theorem dX5_joined_178 : decode cX5_joined 178 = .ok (.ifCond .ne 7, 3) := by decide +kernel
theorem dX5_joined_181 : decode cX5_joined 181 = .ok (.iconst 0, 1) := by decide +kernel
theorem dX5_joined_182 : decode cX5_joined 182 = .ok (.goto 6, 3) := by decide +kernel
theorem dX5_joined_185 : decode cX5_joined 185 = .ok (.iload_n 1, 1) := by decide +kernel
theorem dX5_joined_186 : decode cX5_joined 186 = .ok (.iload_n 2, 1) := by decide +kernel
theorem dX5_joined_187 : decode cX5_joined 187 = .ok (.irem, 1) := by decide +kernel
theorem dX5_joined_188 : decode cX5_joined 188 = .ok (.ireturn, 1) := by decide +kernel
theorem dX5_joined_189 : decode cX5_joined 189 = .ok (.iconst 0, 1) := by decide +kernel
theorem dX5_joined_190 : decode cX5_joined 190 = .ok (.ireturn, 1) := by decide +kernel
theorem dX5_worth_0 : decode cX5_worth 0 = .ok (.aload_n 0, 1) := by decide +kernel
theorem dX5_worth_1 : decode cX5_worth 1 = .ok (.iconst 0, 1) := by decide +kernel
theorem dX5_worth_2 : decode cX5_worth 2 = .ok (.putfield 45, 3) := by decide +kernel
theorem dX5_worth_5 : decode cX5_worth 5 = .ok (.iconst 0, 1) := by decide +kernel
theorem dX5_worth_6 : decode cX5_worth 6 = .ok (.istore 6, 2) := by decide +kernel
theorem dX5_worth_8 : decode cX5_worth 8 = .ok (.iconst 0, 1) := by decide +kernel
theorem dX5_worth_9 : decode cX5_worth 9 = .ok (.istore 7, 2) := by decide +kernel
theorem dX5_worth_11 : decode cX5_worth 11 = .ok (.iload 7, 2) := by decide +kernel
theorem dX5_worth_13 : decode cX5_worth 13 = .ok (.aload_n 0, 1) := by decide +kernel
theorem dX5_worth_14 : decode cX5_worth 14 = .ok (.getfield 34, 3) := by decide +kernel
theorem dX5_worth_17 : decode cX5_worth 17 = .ok (.if_icmp .ge 236, 3) := by decide +kernel
theorem dX5_worth_20 : decode cX5_worth 20 = .ok (.aload_n 0, 1) := by decide +kernel
theorem dX5_worth_21 : decode cX5_worth 21 = .ok (.getfield 24, 3) := by decide +kernel
theorem dX5_worth_24 : decode cX5_worth 24 = .ok (.iload 7, 2) := by decide +kernel
theorem dX5_worth_26 : decode cX5_worth 26 = .ok (.iaload, 1) := by decide +kernel
theorem dX5_worth_27 : decode cX5_worth 27 = .ok (.istore 8, 2) := by decide +kernel
theorem dX5_worth_29 : decode cX5_worth 29 = .ok (.iload 6, 2) := by decide +kernel
theorem dX5_worth_31 : decode cX5_worth 31 = .ok (.ifCond .eq 20, 3) := by decide +kernel
theorem dX5_worth_34 : decode cX5_worth 34 = .ok (.iload 8, 2) := by decide +kernel
theorem dX5_worth_36 : decode cX5_worth 36 = .ok (.bipush (-59), 2) := by decide +kernel
theorem dX5_worth_38 : decode cX5_worth 38 = .ok (.if_icmp .eq 7, 3) := by decide +kernel
theorem dX5_worth_41 : decode cX5_worth 41 = .ok (.iconst 1, 1) := by decide +kernel
theorem dX5_worth_42 : decode cX5_worth 42 = .ok (.goto 4, 3) := by decide +kernel
theorem dX5_worth_45 : decode cX5_worth 45 = .ok (.iconst 0, 1) := by decide +kernel
theorem dX5_worth_46 : decode cX5_worth 46 = .ok (.istore 6, 2) := by decide +kernel
theorem dX5_worth_48 : decode cX5_worth 48 = .ok (.goto 199, 3) := by decide +kernel
theorem dX5_worth_51 : decode cX5_worth 51 = .ok (.iload 8, 2) := by decide +kernel
theorem dX5_worth_53 : decode cX5_worth 53 = .ok (.ifCond .lt 12, 3) := by decide +kernel
theorem dX5_worth_56 : decode cX5_worth 56 = .ok (.aload_n 0, 1) := by decide +kernel
theorem dX5_worth_57 : decode cX5_worth 57 = .ok (.iload 8, 2) := by decide +kernel
theorem dX5_worth_59 : decode cX5_worth 59 = .ok (.invokevirtual 48, 3) := by decide +kernel
theorem dX5_worth_62 : decode cX5_worth 62 = .ok (.goto 185, 3) := by decide +kernel
theorem dX5_worth_65 : decode cX5_worth 65 = .ok (.iload 8, 2) := by decide +kernel
theorem dX5_worth_67 : decode cX5_worth 67 = .ok (.ineg, 1) := by decide +kernel
theorem dX5_worth_68 : decode cX5_worth 68 = .ok (.lookupswitch 157 #[(33, 106), (59, 84), (63, 89), (97, 137), (98, 137), (103, 137), (112, 137), (113, 137), (126, 125)], 84) := by decide +kernel
theorem dX5_worth_152 : decode cX5_worth 152 = .ok (.aload_n 0, 1) := by decide +kernel
theorem dX5_worth_153 : decode cX5_worth 153 = .ok (.invokevirtual 51, 3) := by decide +kernel
theorem dX5_worth_156 : decode cX5_worth 156 = .ok (.ireturn, 1) := by decide +kernel
theorem dX5_worth_157 : decode cX5_worth 157 = .ok (.aload_n 0, 1) := by decide +kernel
theorem dX5_worth_158 : decode cX5_worth 158 = .ok (.invokevirtual 51, 3) := by decide +kernel
theorem dX5_worth_161 : decode cX5_worth 161 = .ok (.ifCond .ne 7, 3) := by decide +kernel
theorem dX5_worth_164 : decode cX5_worth 164 = .ok (.iconst 1, 1) := by decide +kernel
theorem dX5_worth_165 : decode cX5_worth 165 = .ok (.goto 4, 3) := by decide +kernel
theorem dX5_worth_168 : decode cX5_worth 168 = .ok (.iconst 0, 1) := by decide +kernel
theorem dX5_worth_169 : decode cX5_worth 169 = .ok (.istore 6, 2) := by decide +kernel
theorem dX5_worth_171 : decode cX5_worth 171 = .ok (.goto 76, 3) := by decide +kernel
theorem dX5_worth_174 : decode cX5_worth 174 = .ok (.aload_n 0, 1) := by decide +kernel
theorem dX5_worth_175 : decode cX5_worth 175 = .ok (.aload_n 0, 1) := by decide +kernel
theorem dX5_worth_176 : decode cX5_worth 176 = .ok (.invokevirtual 51, 3) := by decide +kernel
theorem dX5_worth_179 : decode cX5_worth 179 = .ok (.ifCond .ne 7, 3) := by decide +kernel
theorem dX5_worth_182 : decode cX5_worth 182 = .ok (.iconst 1, 1) := by decide +kernel
theorem dX5_worth_183 : decode cX5_worth 183 = .ok (.goto 4, 3) := by decide +kernel
theorem dX5_worth_186 : decode cX5_worth 186 = .ok (.iconst 0, 1) := by decide +kernel
theorem dX5_worth_187 : decode cX5_worth 187 = .ok (.invokevirtual 48, 3) := by decide +kernel
theorem dX5_worth_190 : decode cX5_worth 190 = .ok (.goto 57, 3) := by decide +kernel
theorem dX5_worth_193 : decode cX5_worth 193 = .ok (.aload_n 0, 1) := by decide +kernel
theorem dX5_worth_194 : decode cX5_worth 194 = .ok (.aload_n 0, 1) := by decide +kernel
theorem dX5_worth_195 : decode cX5_worth 195 = .ok (.invokevirtual 51, 3) := by decide +kernel
theorem dX5_worth_198 : decode cX5_worth 198 = .ok (.ineg, 1) := by decide +kernel
theorem dX5_worth_199 : decode cX5_worth 199 = .ok (.invokevirtual 48, 3) := by decide +kernel
theorem dX5_worth_202 : decode cX5_worth 202 = .ok (.goto 45, 3) := by decide +kernel
theorem dX5_worth_205 : decode cX5_worth 205 = .ok (.aload_n 0, 1) := by decide +kernel
theorem dX5_worth_206 : decode cX5_worth 206 = .ok (.iload 8, 2) := by decide +kernel
theorem dX5_worth_208 : decode cX5_worth 208 = .ok (.ineg, 1) := by decide +kernel
theorem dX5_worth_209 : decode cX5_worth 209 = .ok (.iload_n 1, 1) := by decide +kernel
theorem dX5_worth_210 : decode cX5_worth 210 = .ok (.iload_n 2, 1) := by decide +kernel
theorem dX5_worth_211 : decode cX5_worth 211 = .ok (.iload_n 3, 1) := by decide +kernel
theorem dX5_worth_212 : decode cX5_worth 212 = .ok (.iload 4, 2) := by decide +kernel
theorem dX5_worth_214 : decode cX5_worth 214 = .ok (.iload 5, 2) := by decide +kernel
theorem dX5_worth_216 : decode cX5_worth 216 = .ok (.invokestatic 55, 3) := by decide +kernel
theorem dX5_worth_219 : decode cX5_worth 219 = .ok (.invokevirtual 48, 3) := by decide +kernel
theorem dX5_worth_222 : decode cX5_worth 222 = .ok (.goto 25, 3) := by decide +kernel
theorem dX5_worth_225 : decode cX5_worth 225 = .ok (.aload_n 0, 1) := by decide +kernel
theorem dX5_worth_226 : decode cX5_worth 226 = .ok (.invokevirtual 51, 3) := by decide +kernel
theorem dX5_worth_229 : decode cX5_worth 229 = .ok (.istore 9, 2) := by decide +kernel
theorem dX5_worth_231 : decode cX5_worth 231 = .ok (.aload_n 0, 1) := by decide +kernel
theorem dX5_worth_232 : decode cX5_worth 232 = .ok (.iload 8, 2) := by decide +kernel
theorem dX5_worth_234 : decode cX5_worth 234 = .ok (.ineg, 1) := by decide +kernel
theorem dX5_worth_235 : decode cX5_worth 235 = .ok (.aload_n 0, 1) := by decide +kernel
theorem dX5_worth_236 : decode cX5_worth 236 = .ok (.invokevirtual 51, 3) := by decide +kernel
theorem dX5_worth_239 : decode cX5_worth 239 = .ok (.iload 9, 2) := by decide +kernel
theorem dX5_worth_241 : decode cX5_worth 241 = .ok (.invokestatic 59, 3) := by decide +kernel
theorem dX5_worth_244 : decode cX5_worth 244 = .ok (.invokevirtual 48, 3) := by decide +kernel
theorem dX5_worth_247 : decode cX5_worth 247 = .ok (.iinc 7 1, 3) := by decide +kernel
theorem dX5_worth_250 : decode cX5_worth 250 = .ok (.goto (-239), 3) := by decide +kernel
theorem dX5_worth_253 : decode cX5_worth 253 = .ok (.iconst 0, 1) := by decide +kernel
theorem dX5_worth_254 : decode cX5_worth 254 = .ok (.ireturn, 1) := by decide +kernel
theorem dX5_take_0 : decode cX5_take 0 = .ok (.aload_n 0, 1) := by decide +kernel
theorem dX5_take_1 : decode cX5_take 1 = .ok (.getfield 30, 3) := by decide +kernel
theorem dX5_take_4 : decode cX5_take 4 = .ok (.bipush 120, 2) := by decide +kernel
theorem dX5_take_6 : decode cX5_take 6 = .ok (.if_icmp .lt 6, 3) := by decide +kernel
theorem dX5_take_9 : decode cX5_take 9 = .ok (.bipush (-3), 2) := by decide +kernel
theorem dX5_take_11 : decode cX5_take 11 = .ok (.ireturn, 1) := by decide +kernel
theorem dX5_take_12 : decode cX5_take 12 = .ok (.aload_n 0, 1) := by decide +kernel
theorem dX5_take_13 : decode cX5_take 13 = .ok (.getfield 11, 3) := by decide +kernel
theorem dX5_take_16 : decode cX5_take 16 = .ok (.aload_n 0, 1) := by decide +kernel
theorem dX5_take_17 : decode cX5_take 17 = .ok (.getfield 30, 3) := by decide +kernel
theorem dX5_take_20 : decode cX5_take 20 = .ok (.iload_n 1, 1) := by decide +kernel
theorem dX5_take_21 : decode cX5_take 21 = .ok (.iastore, 1) := by decide +kernel
theorem dX5_take_22 : decode cX5_take 22 = .ok (.aload_n 0, 1) := by decide +kernel
theorem dX5_take_23 : decode cX5_take 23 = .ok (.dup, 1) := by decide +kernel
theorem dX5_take_24 : decode cX5_take 24 = .ok (.getfield 30, 3) := by decide +kernel
theorem dX5_take_27 : decode cX5_take 27 = .ok (.iconst 1, 1) := by decide +kernel
theorem dX5_take_28 : decode cX5_take 28 = .ok (.iadd, 1) := by decide +kernel
theorem dX5_take_29 : decode cX5_take 29 = .ok (.putfield 30, 3) := by decide +kernel
theorem dX5_take_32 : decode cX5_take 32 = .ok (.aload_n 0, 1) := by decide +kernel
theorem dX5_take_33 : decode cX5_take 33 = .ok (.getfield 30, 3) := by decide +kernel
theorem dX5_take_36 : decode cX5_take 36 = .ok (.ireturn, 1) := by decide +kernel
theorem dX5_enact_0 : decode cX5_enact 0 = .ok (.aload_n 0, 1) := by decide +kernel
theorem dX5_enact_1 : decode cX5_enact 1 = .ok (.getfield 20, 3) := by decide +kernel
theorem dX5_enact_4 : decode cX5_enact 4 = .ok (.aload_n 0, 1) := by decide +kernel
theorem dX5_enact_5 : decode cX5_enact 5 = .ok (.getfield 11, 3) := by decide +kernel
theorem dX5_enact_8 : decode cX5_enact 8 = .ok (.aload_n 0, 1) := by decide +kernel
theorem dX5_enact_9 : decode cX5_enact 9 = .ok (.getfield 30, 3) := by decide +kernel
theorem dX5_enact_12 : decode cX5_enact 12 = .ok (.invokevirtual 37, 3) := by decide +kernel
theorem dX5_enact_15 : decode cX5_enact 15 = .ok (.istore_n 1, 1) := by decide +kernel
theorem dX5_enact_16 : decode cX5_enact 16 = .ok (.aload_n 0, 1) := by decide +kernel
theorem dX5_enact_17 : decode cX5_enact 17 = .ok (.iconst 0, 1) := by decide +kernel
theorem dX5_enact_18 : decode cX5_enact 18 = .ok (.putfield 30, 3) := by decide +kernel
theorem dX5_enact_21 : decode cX5_enact 21 = .ok (.iload_n 1, 1) := by decide +kernel
theorem dX5_enact_22 : decode cX5_enact 22 = .ok (.ifCond .ge 18, 3) := by decide +kernel
theorem dX5_enact_25 : decode cX5_enact 25 = .ok (.aload_n 0, 1) := by decide +kernel
theorem dX5_enact_26 : decode cX5_enact 26 = .ok (.aload_n 0, 1) := by decide +kernel
theorem dX5_enact_27 : decode cX5_enact 27 = .ok (.getfield 20, 3) := by decide +kernel
theorem dX5_enact_30 : decode cX5_enact 30 = .ok (.aload_n 0, 1) := by decide +kernel
theorem dX5_enact_31 : decode cX5_enact 31 = .ok (.getfield 24, 3) := by decide +kernel
theorem dX5_enact_34 : decode cX5_enact 34 = .ok (.invokevirtual 41, 3) := by decide +kernel
theorem dX5_enact_37 : decode cX5_enact 37 = .ok (.putfield 34, 3) := by decide +kernel
theorem dX5_enact_40 : decode cX5_enact 40 = .ok (.iload_n 1, 1) := by decide +kernel
theorem dX5_enact_41 : decode cX5_enact 41 = .ok (.ireturn, 1) := by decide +kernel
theorem dX5_bytes_0 : decode cX5_bytes 0 = .ok (.aload_n 0, 1) := by decide +kernel
theorem dX5_bytes_1 : decode cX5_bytes 1 = .ok (.getfield 30, 3) := by decide +kernel
theorem dX5_bytes_4 : decode cX5_bytes 4 = .ok (.ireturn, 1) := by decide +kernel
theorem fl_X5_11 : Cond.fieldLink RX5 11 (TX5 0).1 (TX5 0).2.1 (TX5 0).2.2.1 ∈ wsL_law := (uw3 _ (List.mem_of_getElem? (i := 21) rfl))
theorem fl_X5_20 : Cond.fieldLink RX5 20 (TX5 2).1 (TX5 2).2.1 (TX5 2).2.2.1 ∈ wsL_law := (uw4 _ (List.mem_of_getElem? (i := 1) rfl))
theorem fl_X5_24 : Cond.fieldLink RX5 24 (TX5 3).1 (TX5 3).2.1 (TX5 3).2.2.1 ∈ wsL_law := (uw4 _ (List.mem_of_getElem? (i := 2) rfl))
theorem fl_X5_27 : Cond.fieldLink RX5 27 (TX5 5).1 (TX5 5).2.1 (TX5 5).2.2.1 ∈ wsL_law := (uw4 _ (List.mem_of_getElem? (i := 3) rfl))
theorem fl_X5_30 : Cond.fieldLink RX5 30 (TX5 1).1 (TX5 1).2.1 (TX5 1).2.2.1 ∈ wsL_law := (uw22 _ (List.mem_of_getElem? (i := 6) rfl))
theorem fl_X5_34 : Cond.fieldLink RX5 34 (TX5 4).1 (TX5 4).2.1 (TX5 4).2.2.1 ∈ wsL_law := (uw16 _ (List.mem_of_getElem? (i := 2) rfl))
theorem fl_X5_45 : Cond.fieldLink RX5 45 (TX5 6).1 (TX5 6).2.1 (TX5 6).2.2.1 ∈ wsL_law := (uw16 _ (List.mem_of_getElem? (i := 12) rfl))
theorem hy_X5_joined : Cond.code yX5_joined cX5_joined 3 (some .int) ∈ wsL_law ∧ Cond.initialized yX5_joined.cls ∈ wsL_law ∧ Cond.static yX5_joined ∈ wsL_law := ⟨(uw17 _ (List.mem_of_getElem? (i := 2) rfl)), (uw1 _ (List.mem_of_getElem? (i := 23) rfl)), (uw17 _ (List.mem_of_getElem? (i := 1) rfl))⟩
theorem hd_X5_joined : yX5_joined.cls ≠ "java/lang/invoke/MethodHandle" ∧ yX5_joined.cls ≠ "java/lang/invoke/VarHandle" ∧ (parseMethodDescriptor yX5_joined.desc).map (fun d => d.parameters.length) = some 3 := ⟨by decide +kernel, by decide +kernel, by decide +kernel⟩
theorem hy_X5_named : Cond.code yX5_named cX5_named 6 (some .int) ∈ wsL_law ∧ Cond.initialized yX5_named.cls ∈ wsL_law ∧ Cond.static yX5_named ∈ wsL_law := ⟨(uw16 _ (List.mem_of_getElem? (i := 23) rfl)), (uw1 _ (List.mem_of_getElem? (i := 23) rfl)), (uw16 _ (List.mem_of_getElem? (i := 22) rfl))⟩
theorem hd_X5_named : yX5_named.cls ≠ "java/lang/invoke/MethodHandle" ∧ yX5_named.cls ≠ "java/lang/invoke/VarHandle" ∧ (parseMethodDescriptor yX5_named.desc).map (fun d => d.parameters.length) = some 6 := ⟨by decide +kernel, by decide +kernel, by decide +kernel⟩
theorem hy_X5_pop : Cond.code yX5_pop cX5_pop 1 (some .int) ∈ wsL_law ∧ Cond.initialized yX5_pop.cls ∈ wsL_law ∧ Cond.instanceMethod yX5_pop ∈ wsL_law ∧ Cond.selects yX5_pop.cls yX5_pop yX5_pop ∈ wsL_law := ⟨(uw16 _ (List.mem_of_getElem? (i := 20) rfl)), (uw1 _ (List.mem_of_getElem? (i := 23) rfl)), (uw16 _ (List.mem_of_getElem? (i := 18) rfl)), (uw16 _ (List.mem_of_getElem? (i := 19) rfl))⟩
theorem hd_X5_pop : yX5_pop.cls ≠ "java/lang/invoke/MethodHandle" ∧ yX5_pop.cls ≠ "java/lang/invoke/VarHandle" ∧ (parseMethodDescriptor yX5_pop.desc).map (fun d => d.parameters.length) = some 0 := ⟨by decide +kernel, by decide +kernel, by decide +kernel⟩
theorem hy_X5_push : Cond.code yX5_push cX5_push 2 none ∈ wsL_law ∧ Cond.initialized yX5_push.cls ∈ wsL_law ∧ Cond.instanceMethod yX5_push ∈ wsL_law ∧ Cond.selects yX5_push.cls yX5_push yX5_push ∈ wsL_law := ⟨(uw16 _ (List.mem_of_getElem? (i := 16) rfl)), (uw1 _ (List.mem_of_getElem? (i := 23) rfl)), (uw16 _ (List.mem_of_getElem? (i := 14) rfl)), (uw16 _ (List.mem_of_getElem? (i := 15) rfl))⟩
theorem hd_X5_push : yX5_push.cls ≠ "java/lang/invoke/MethodHandle" ∧ yX5_push.cls ≠ "java/lang/invoke/VarHandle" ∧ (parseMethodDescriptor yX5_push.desc).map (fun d => d.parameters.length) = some 1 := ⟨by decide +kernel, by decide +kernel, by decide +kernel⟩
theorem hy_X6_copySteps : Cond.code yX6_copySteps cX6_copySteps 3 (some .int) ∈ wsL_law ∧ Cond.initialized yX6_copySteps.cls ∈ wsL_law ∧ Cond.instanceMethod yX6_copySteps ∈ wsL_law ∧ Cond.selects yX6_copySteps.cls yX6_copySteps yX6_copySteps ∈ wsL_law := ⟨(uw25 _ (List.mem_of_getElem? (i := 14) rfl)), (uw4 _ (List.mem_of_getElem? (i := 0) rfl)), (uw25 _ (List.mem_of_getElem? (i := 12) rfl)), (uw25 _ (List.mem_of_getElem? (i := 13) rfl))⟩
theorem hd_X6_copySteps : yX6_copySteps.cls ≠ "java/lang/invoke/MethodHandle" ∧ yX6_copySteps.cls ≠ "java/lang/invoke/VarHandle" ∧ (parseMethodDescriptor yX6_copySteps.desc).map (fun d => d.parameters.length) = some 1 := ⟨by decide +kernel, by decide +kernel, by decide +kernel⟩
theorem hy_X6_read : Cond.code yX6_read cX6_read 6 (some .int) ∈ wsL_law ∧ Cond.initialized yX6_read.cls ∈ wsL_law ∧ Cond.instanceMethod yX6_read ∈ wsL_law ∧ Cond.selects yX6_read.cls yX6_read yX6_read ∈ wsL_law := ⟨(uw23 _ (List.mem_of_getElem? (i := 0) rfl)), (uw4 _ (List.mem_of_getElem? (i := 0) rfl)), (uw22 _ (List.mem_of_getElem? (i := 22) rfl)), (uw22 _ (List.mem_of_getElem? (i := 23) rfl))⟩
theorem hd_X6_read : yX6_read.cls ≠ "java/lang/invoke/MethodHandle" ∧ yX6_read.cls ≠ "java/lang/invoke/VarHandle" ∧ (parseMethodDescriptor yX6_read.desc).map (fun d => d.parameters.length) = some 2 := ⟨by decide +kernel, by decide +kernel, by decide +kernel⟩
theorem ml_X5_37 : Cond.methodLink RX5 37 yX6_read ∈ wsL_law := (uw22 _ (List.mem_of_getElem? (i := 21) rfl))
theorem ml_X5_41 : Cond.methodLink RX5 41 yX6_copySteps ∈ wsL_law := (uw25 _ (List.mem_of_getElem? (i := 11) rfl))
theorem ml_X5_48 : Cond.methodLink RX5 48 yX5_push ∈ wsL_law := (uw16 _ (List.mem_of_getElem? (i := 13) rfl))
theorem ml_X5_51 : Cond.methodLink RX5 51 yX5_pop ∈ wsL_law := (uw16 _ (List.mem_of_getElem? (i := 17) rfl))
theorem ml_X5_55 : Cond.methodLink RX5 55 yX5_named ∈ wsL_law := (uw16 _ (List.mem_of_getElem? (i := 21) rfl))
theorem ml_X5_59 : Cond.methodLink RX5 59 yX5_joined ∈ wsL_law := (uw17 _ (List.mem_of_getElem? (i := 0) rfl))
abbrev w_Law_isTold (G : zG) (a_this : Nat) (a_tape : Nat) (a_reader : Nat) (a_steps : Nat) (a_worked : Nat) (fed : Int32) (length_ : Int32) (top : Int32) : va_W := [(a_this, cO 5 [.ref a_tape, .int fed, .ref a_reader, .ref a_steps, .int length_, .ref a_worked, .int top])]
def f_Law_isTold (length_ : Int32) : Int32 := (if length_ ≤ 0 then 0 else 1)
set_option maxRecDepth 100000 in
set_option maxHeartbeats 4000000 in
theorem c_Law_isTold (l : Launch) (G : zG) (a_this : Nat) (a_tape : Nat) (a_reader : Nat) (a_steps : Nat) (a_worked : Nat) (fed : Int32) (length_ : Int32) (top : Int32) (r_ : Int32) (hf : f_Law_isTold length_ = r_) : zM l yX5_isTold cX5_isTold 1 (some .boolean) 0 0 G [.ref a_this] (w_Law_isTold G a_this a_tape a_reader a_steps a_worked fed length_ top) (some (.int r_)) (w_Law_isTold G a_this a_tape a_reader a_steps a_worked fed length_ top) := by
  refine zM.of [(0, .ref a_this)] (own := RX5) rfl (by decide +kernel) (Nat.le_of_ble_eq_true rfl) rfl rfl fun X hX F => ?_
  subst hX
  replace hf := (f_Law_isTold.eq_1 ..).symm.trans hf
  refine z_aload_n F 0 dX5_isTold_0 rfl rfl ?_
  refine z_get F 0 5 4 inlX5 rfl rfl (by decide) fl_X5_34 rfl dX5_isTold_1 ?_
  refine z_if_le F 11 dX5_isTold_4 (by decide) hf (fun hf _ => ?_) (fun hf _ => ?_)
  · refine z_iconst F (0) dX5_isTold_11 rfl ?_
    subst hf
    exact z_iret F rfl rfl rfl rfl dX5_isTold_12
  · refine z_iconst F (1) dX5_isTold_7 rfl ?_
    refine z_goto F 12 dX5_isTold_8 (by decide) ?_
    subst hf
    exact z_iret F rfl rfl rfl rfl dX5_isTold_12

abbrev w_Law_push (G : zG) (a_this : Nat) (a_tape : Nat) (a_reader : Nat) (a_steps : Nat) (a_worked : Nat) (fed : Int32) (length_ : Int32) (top : Int32) (worked : Nat → Int32) : va_W := [(a_this, cO 5 [.ref a_tape, .int fed, .ref a_reader, .ref a_steps, .int length_, .ref a_worked, .int top]), (a_worked, cI G 121 worked)]
def f_Law_push (top : Int32) (worked : Nat → Int32) (x1 : Int32) : Option (Int32 × (Nat → Int32)) := (if (121 : Int32) ≤ top then (some (top, worked)) else (zs worked 121 top x1 fun worked_1 => (some ((top + (1 : Int32)), worked_1))))
set_option maxRecDepth 100000 in
set_option maxHeartbeats 4000000 in
theorem c_Law_push (l : Launch) (G : zG) (a_this : Nat) (a_tape : Nat) (a_reader : Nat) (a_steps : Nat) (a_worked : Nat) (fed : Int32) (length_ : Int32) (top : Int32) (worked : Nat → Int32) (x1 : Int32) (o_top : Int32) (o_worked : Nat → Int32) (hf : f_Law_push top worked x1 = some (o_top, o_worked)) : zM l yX5_push cX5_push 2 none 0 0 G [.ref a_this, .int x1] (w_Law_push G a_this a_tape a_reader a_steps a_worked fed length_ top worked) (none) (w_Law_push G a_this a_tape a_reader a_steps a_worked fed length_ o_top o_worked) := by
  refine zM.of [(0, .ref a_this), (1, .int x1)] (own := RX5) rfl (by decide +kernel) (Nat.le_of_ble_eq_true rfl) rfl rfl fun X hX F => ?_
  subst hX
  replace hf := (f_Law_push.eq_1 ..).symm.trans hf
  refine z_aload_n F 0 dX5_push_0 rfl rfl ?_
  refine z_get F 0 5 6 inlX5 rfl rfl (by decide) fl_X5_45 rfl dX5_push_1 ?_
  refine z_aload_n F 0 dX5_push_4 rfl rfl ?_
  refine z_get F 0 5 5 inlX5 rfl rfl (by decide) fl_X5_27 rfl dX5_push_5 ?_
  refine z_alen F 1 0 121 rfl rfl rfl dX5_push_8 ?_
  refine z_icmp_ge F 32 dX5_push_9 (by decide) hf (fun hf _ => ?_) (fun hf _ => ?_)
  · have eq1 := Option.some.inj hf
    obtain ⟨ee1, ee2⟩ := Prod.mk.inj eq1
    subst ee1
    subst ee2
    exact z_vret F rfl rfl rfl dX5_push_32
  · refine z_aload_n F 0 dX5_push_12 rfl rfl ?_
    refine z_get F 0 5 5 inlX5 rfl rfl (by decide) fl_X5_27 rfl dX5_push_13 ?_
    refine z_aload_n F 0 dX5_push_16 rfl rfl ?_
    refine z_get F 0 5 6 inlX5 rfl rfl (by decide) fl_X5_45 rfl dX5_push_17 ?_
    refine z_iload_n F 1 dX5_push_20 rfl rfl ?_
    refine z_iast F 1 (fun worked_1 => (w_Law_push G a_this a_tape a_reader a_steps a_worked fed length_ top worked_1)) rfl hf (fun _ => rfl) dX5_push_21 (fun worked_1 hf => ?_)
    refine z_aload_n F 0 dX5_push_22 rfl rfl ?_
    refine z_dup F rfl dX5_push_23 ?_
    refine z_get F 0 5 6 inlX5 rfl rfl (by decide) fl_X5_45 rfl dX5_push_24 ?_
    refine z_iconst F (1) dX5_push_27 rfl ?_
    refine z_iadd F dX5_push_28 ?_
    refine z_put F 0 5 6 (w_Law_push G a_this a_tape a_reader a_steps a_worked fed length_ (top + (1 : Int32)) worked_1) inlX5 tyX5 tyX5_ok nmX5 rfl rfl (by decide) fl_X5_45 rfl rfl rfl (Nat.le_of_ble_eq_true rfl) rfl dX5_push_29 ?_
    have eq1 := Option.some.inj hf
    obtain ⟨ee1, ee2⟩ := Prod.mk.inj eq1
    subst ee1
    subst ee2
    exact z_vret F rfl rfl rfl dX5_push_32

abbrev w_Law_pop (G : zG) (a_this : Nat) (a_tape : Nat) (a_reader : Nat) (a_steps : Nat) (a_worked : Nat) (fed : Int32) (length_ : Int32) (top : Int32) (worked : Nat → Int32) : va_W := [(a_this, cO 5 [.ref a_tape, .int fed, .ref a_reader, .ref a_steps, .int length_, .ref a_worked, .int top]), (a_worked, cI G 121 worked)]
def f_Law_pop (top : Int32) (worked : Nat → Int32) : Option (Int32 × Int32) := (if (0 : Int32) < top then (zg worked 121 (top - (1 : Int32)) fun v_1 => (some (v_1, (top - (1 : Int32))))) else (some (0, top)))
set_option maxRecDepth 100000 in
set_option maxHeartbeats 4000000 in
theorem c_Law_pop (l : Launch) (G : zG) (a_this : Nat) (a_tape : Nat) (a_reader : Nat) (a_steps : Nat) (a_worked : Nat) (fed : Int32) (length_ : Int32) (top : Int32) (worked : Nat → Int32) (r_ : Int32) (o_top : Int32) (hf : f_Law_pop top worked = some (r_, o_top)) : zM l yX5_pop cX5_pop 1 (some .int) 0 0 G [.ref a_this] (w_Law_pop G a_this a_tape a_reader a_steps a_worked fed length_ top worked) (some (.int r_)) (w_Law_pop G a_this a_tape a_reader a_steps a_worked fed length_ o_top worked) := by
  refine zM.of [(0, .ref a_this)] (own := RX5) rfl (by decide +kernel) (Nat.le_of_ble_eq_true rfl) rfl rfl fun X hX F => ?_
  subst hX
  replace hf := (f_Law_pop.eq_1 ..).symm.trans hf
  refine z_aload_n F 0 dX5_pop_0 rfl rfl ?_
  refine z_get F 0 5 6 inlX5 rfl rfl (by decide) fl_X5_45 rfl dX5_pop_1 ?_
  refine z_if_gt F 9 dX5_pop_4 (by decide) hf (fun hf _ => ?_) (fun hf _ => ?_)
  · refine z_aload_n F 0 dX5_pop_9 rfl rfl ?_
    refine z_dup F rfl dX5_pop_10 ?_
    refine z_get F 0 5 6 inlX5 rfl rfl (by decide) fl_X5_45 rfl dX5_pop_11 ?_
    refine z_iconst F (1) dX5_pop_14 rfl ?_
    refine z_isub F dX5_pop_15 ?_
    refine z_put F 0 5 6 (w_Law_pop G a_this a_tape a_reader a_steps a_worked fed length_ (top - (1 : Int32)) worked) inlX5 tyX5 tyX5_ok nmX5 rfl rfl (by decide) fl_X5_45 rfl rfl rfl (Nat.le_of_ble_eq_true rfl) rfl dX5_pop_16 ?_
    refine z_aload_n F 0 dX5_pop_19 rfl rfl ?_
    refine z_get F 0 5 5 inlX5 rfl rfl (by decide) fl_X5_27 rfl dX5_pop_20 ?_
    refine z_aload_n F 0 dX5_pop_23 rfl rfl ?_
    refine z_get F 0 5 6 inlX5 rfl rfl (by decide) fl_X5_45 rfl dX5_pop_24 ?_
    refine z_iald F 1 rfl hf dX5_pop_27 (fun v_1 hf => ?_)
    have eq1 := Option.some.inj hf
    obtain ⟨ee1, ee2⟩ := Prod.mk.inj eq1
    subst ee1
    subst ee2
    exact z_iret F rfl rfl rfl rfl dX5_pop_28
  · refine z_iconst F (0) dX5_pop_7 rfl ?_
    have eq1 := Option.some.inj hf
    obtain ⟨ee1, ee2⟩ := Prod.mk.inj eq1
    subst ee1
    subst ee2
    exact z_iret F rfl rfl rfl rfl dX5_pop_8

abbrev w_Law_named (G : zG) : va_W := []
def f_Law_named (x0 : Int32) (x1 : Int32) (x2 : Int32) (x3 : Int32) (x4 : Int32) (x5 : Int32) : Int32 := (if x0 = 97 then x1 else (if x0 = 98 then x2 else (if x0 = 103 then x3 else (if x0 = 112 then x4 else x5))))
set_option maxRecDepth 100000 in
set_option maxHeartbeats 4000000 in
theorem c_Law_named (l : Launch) (G : zG) (x0 : Int32) (x1 : Int32) (x2 : Int32) (x3 : Int32) (x4 : Int32) (x5 : Int32) (r_ : Int32) (hf : f_Law_named x0 x1 x2 x3 x4 x5 = r_) : zM l yX5_named cX5_named 6 (some .int) 0 0 G [.int x0, .int x1, .int x2, .int x3, .int x4, .int x5] (w_Law_named G) (some (.int r_)) (w_Law_named G) := by
  refine zM.of [(0, .int x0), (1, .int x1), (2, .int x2), (3, .int x3), (4, .int x4), (5, .int x5)] (own := RX5) rfl (by decide +kernel) (Nat.le_of_ble_eq_true rfl) rfl rfl fun X hX F => ?_
  subst hX
  replace hf := (f_Law_named.eq_1 ..).symm.trans hf
  refine z_iload_n F 0 dX5_named_0 rfl rfl ?_
  by_cases hc_1 : x0 = 97
  · replace hf := zif_t hf hc_1
    refine z_lookup (off := 43) F 44 dX5_named_1 (by decide +kernel) (by rw [hc_1]; decide +kernel) (by decide) ?_
    refine z_iload_n F 1 dX5_named_44 rfl rfl ?_
    subst hf
    exact z_iret F rfl rfl rfl rfl dX5_named_45
  · replace hf := zif_f hf hc_1
    by_cases hc_2 : x0 = 98
    · replace hf := zif_t hf hc_2
      refine z_lookup (off := 45) F 46 dX5_named_1 (by decide +kernel) (by rw [hc_2]; decide +kernel) (by decide) ?_
      refine z_iload_n F 2 dX5_named_46 rfl rfl ?_
      subst hf
      exact z_iret F rfl rfl rfl rfl dX5_named_47
    · replace hf := zif_f hf hc_2
      by_cases hc_3 : x0 = 103
      · replace hf := zif_t hf hc_3
        refine z_lookup (off := 47) F 48 dX5_named_1 (by decide +kernel) (by rw [hc_3]; decide +kernel) (by decide) ?_
        refine z_iload_n F 3 dX5_named_48 rfl rfl ?_
        subst hf
        exact z_iret F rfl rfl rfl rfl dX5_named_49
      · replace hf := zif_f hf hc_3
        by_cases hc_4 : x0 = 112
        · replace hf := zif_t hf hc_4
          refine z_lookup (off := 49) F 50 dX5_named_1 (by decide +kernel) (by rw [hc_4]; decide +kernel) (by decide) ?_
          refine z_iload F 4 dX5_named_50 rfl ?_
          subst hf
          exact z_iret F rfl rfl rfl rfl dX5_named_52
        · replace hf := zif_f hf hc_4
          refine z_lookup (off := 52) F 53 dX5_named_1 (by decide +kernel) (zlk x0 [(97, 43), (98, 45), (103, 47), (112, 49)] (52) (List.forall_mem_cons.mpr ⟨zne hc_1 (c := 97) (k := 97) rfl, List.forall_mem_cons.mpr ⟨zne hc_2 (c := 98) (k := 98) rfl, List.forall_mem_cons.mpr ⟨zne hc_3 (c := 103) (k := 103) rfl, List.forall_mem_cons.mpr ⟨zne hc_4 (c := 112) (k := 112) rfl, fun _ h => absurd h List.not_mem_nil⟩⟩⟩⟩)) (by decide) ?_
          refine z_iload F 5 dX5_named_53 rfl ?_
          subst hf
          exact z_iret F rfl rfl rfl rfl dX5_named_55

abbrev w_Law_joined (G : zG) : va_W := []
def f_Law_joined (x0 : Int32) (x1 : Int32) (x2 : Int32) : Option Int32 := (if x0 = 37 then (if x2 = 0 then (some 0) else (zgd (¬ x2 = 0) (some (x1 - x1 / x2 * x2)))) else (if x0 = 38 then (if x1 = 0 then (some 0) else (if x2 = 0 then (some 0) else (some 1))) else (if x0 = 42 then (some (x1 * x2)) else (if x0 = 43 then (some (x1 + x2)) else (if x0 = 45 then (some (x1 - x2)) else (if x0 = 47 then (if x2 = 0 then (some 0) else (zgd (¬ x2 = 0) (some (x1 / x2)))) else (if x0 = 60 then (if x2 ≤ x1 then (some 0) else (some 1)) else (if x0 = 61 then (if x1 = x2 then (some 1) else (some 0)) else (if x0 = 62 then (if x1 ≤ x2 then (some 0) else (some 1)) else (if x0 = 124 then (if x1 = 0 then (if x2 = 0 then (some 0) else (some 1)) else (some 1)) else (some 0)))))))))))
set_option maxRecDepth 100000 in
set_option maxHeartbeats 4000000 in
theorem c_Law_joined (l : Launch) (G : zG) (x0 : Int32) (x1 : Int32) (x2 : Int32) (r_ : Int32) (hf : f_Law_joined x0 x1 x2 = some r_) : zM l yX5_joined cX5_joined 3 (some .int) 0 0 G [.int x0, .int x1, .int x2] (w_Law_joined G) (some (.int r_)) (w_Law_joined G) := by
  refine zM.of [(0, .int x0), (1, .int x1), (2, .int x2)] (own := RX5) rfl (by decide +kernel) (Nat.le_of_ble_eq_true rfl) rfl rfl fun X hX F => ?_
  subst hX
  replace hf := (f_Law_joined.eq_1 ..).symm.trans hf
  refine z_iload_n F 0 dX5_joined_0 rfl rfl ?_
  by_cases hc_1 : x0 = 37
  · replace hf := zif_t hf hc_1
    refine z_lookup (off := 176) F 177 dX5_joined_1 (by decide +kernel) (by rw [hc_1]; decide +kernel) (by decide) ?_
    refine z_iload_n F 2 dX5_joined_177 rfl rfl ?_
    refine z_if_ne F 185 dX5_joined_178 (by decide) hf (fun hf _ => ?_) (fun hf _ => ?_)
    · refine z_iload_n F 1 dX5_joined_185 rfl rfl ?_
      refine z_iload_n F 2 dX5_joined_186 rfl rfl ?_
      obtain ⟨hne, hf⟩ := zgd_some hf
      refine z_irem F hne dX5_joined_187 ?_
      have ee1 := Option.some.inj hf
      subst ee1
      exact z_iret F rfl rfl rfl rfl dX5_joined_188
    · refine z_iconst F (0) dX5_joined_181 rfl ?_
      refine z_goto F 188 dX5_joined_182 (by decide) ?_
      have ee1 := Option.some.inj hf
      subst ee1
      exact z_iret F rfl rfl rfl rfl dX5_joined_188
  · replace hf := zif_f hf hc_1
    by_cases hc_2 : x0 = 38
    · replace hf := zif_t hf hc_2
      refine z_lookup (off := 105) F 106 dX5_joined_1 (by decide +kernel) (by rw [hc_2]; decide +kernel) (by decide) ?_
      refine z_iload_n F 1 dX5_joined_106 rfl rfl ?_
      refine z_if_eq F 118 dX5_joined_107 (by decide) hf (fun hf _ => ?_) (fun hf _ => ?_)
      · refine z_iconst F (0) dX5_joined_118 rfl ?_
        have ee1 := Option.some.inj hf
        subst ee1
        exact z_iret F rfl rfl rfl rfl dX5_joined_119
      · refine z_iload_n F 2 dX5_joined_110 rfl rfl ?_
        refine z_if_eq F 118 dX5_joined_111 (by decide) hf (fun hf _ => ?_) (fun hf _ => ?_)
        · refine z_iconst F (0) dX5_joined_118 rfl ?_
          have ee1 := Option.some.inj hf
          subst ee1
          exact z_iret F rfl rfl rfl rfl dX5_joined_119
        · refine z_iconst F (1) dX5_joined_114 rfl ?_
          refine z_goto F 119 dX5_joined_115 (by decide) ?_
          have ee1 := Option.some.inj hf
          subst ee1
          exact z_iret F rfl rfl rfl rfl dX5_joined_119
    · replace hf := zif_f hf hc_2
      by_cases hc_3 : x0 = 42
      · replace hf := zif_t hf hc_3
        refine z_lookup (off := 160) F 161 dX5_joined_1 (by decide +kernel) (by rw [hc_3]; decide +kernel) (by decide) ?_
        refine z_iload_n F 1 dX5_joined_161 rfl rfl ?_
        refine z_iload_n F 2 dX5_joined_162 rfl rfl ?_
        refine z_imul F dX5_joined_163 ?_
        have ee1 := Option.some.inj hf
        subst ee1
        exact z_iret F rfl rfl rfl rfl dX5_joined_164
      · replace hf := zif_f hf hc_3
        by_cases hc_4 : x0 = 43
        · replace hf := zif_t hf hc_4
          refine z_lookup (off := 152) F 153 dX5_joined_1 (by decide +kernel) (by rw [hc_4]; decide +kernel) (by decide) ?_
          refine z_iload_n F 1 dX5_joined_153 rfl rfl ?_
          refine z_iload_n F 2 dX5_joined_154 rfl rfl ?_
          refine z_iadd F dX5_joined_155 ?_
          have ee1 := Option.some.inj hf
          subst ee1
          exact z_iret F rfl rfl rfl rfl dX5_joined_156
        · replace hf := zif_f hf hc_4
          by_cases hc_5 : x0 = 45
          · replace hf := zif_t hf hc_5
            refine z_lookup (off := 156) F 157 dX5_joined_1 (by decide +kernel) (by rw [hc_5]; decide +kernel) (by decide) ?_
            refine z_iload_n F 1 dX5_joined_157 rfl rfl ?_
            refine z_iload_n F 2 dX5_joined_158 rfl rfl ?_
            refine z_isub F dX5_joined_159 ?_
            have ee1 := Option.some.inj hf
            subst ee1
            exact z_iret F rfl rfl rfl rfl dX5_joined_160
          · replace hf := zif_f hf hc_5
            by_cases hc_6 : x0 = 47
            · replace hf := zif_t hf hc_6
              refine z_lookup (off := 164) F 165 dX5_joined_1 (by decide +kernel) (by rw [hc_6]; decide +kernel) (by decide) ?_
              refine z_iload_n F 2 dX5_joined_165 rfl rfl ?_
              refine z_if_ne F 173 dX5_joined_166 (by decide) hf (fun hf _ => ?_) (fun hf _ => ?_)
              · refine z_iload_n F 1 dX5_joined_173 rfl rfl ?_
                refine z_iload_n F 2 dX5_joined_174 rfl rfl ?_
                obtain ⟨hne, hf⟩ := zgd_some hf
                refine z_idiv F hne dX5_joined_175 ?_
                have ee1 := Option.some.inj hf
                subst ee1
                exact z_iret F rfl rfl rfl rfl dX5_joined_176
              · refine z_iconst F (0) dX5_joined_169 rfl ?_
                refine z_goto F 176 dX5_joined_170 (by decide) ?_
                have ee1 := Option.some.inj hf
                subst ee1
                exact z_iret F rfl rfl rfl rfl dX5_joined_176
            · replace hf := zif_f hf hc_6
              by_cases hc_7 : x0 = 60
              · replace hf := zif_t hf hc_7
                refine z_lookup (off := 119) F 120 dX5_joined_1 (by decide +kernel) (by rw [hc_7]; decide +kernel) (by decide) ?_
                refine z_iload_n F 1 dX5_joined_120 rfl rfl ?_
                refine z_iload_n F 2 dX5_joined_121 rfl rfl ?_
                refine z_icmp_ge F 129 dX5_joined_122 (by decide) hf (fun hf _ => ?_) (fun hf _ => ?_)
                · refine z_iconst F (0) dX5_joined_129 rfl ?_
                  have ee1 := Option.some.inj hf
                  subst ee1
                  exact z_iret F rfl rfl rfl rfl dX5_joined_130
                · refine z_iconst F (1) dX5_joined_125 rfl ?_
                  refine z_goto F 130 dX5_joined_126 (by decide) ?_
                  have ee1 := Option.some.inj hf
                  subst ee1
                  exact z_iret F rfl rfl rfl rfl dX5_joined_130
              · replace hf := zif_f hf hc_7
                by_cases hc_8 : x0 = 61
                · replace hf := zif_t hf hc_8
                  refine z_lookup (off := 130) F 131 dX5_joined_1 (by decide +kernel) (by rw [hc_8]; decide +kernel) (by decide) ?_
                  refine z_iload_n F 1 dX5_joined_131 rfl rfl ?_
                  refine z_iload_n F 2 dX5_joined_132 rfl rfl ?_
                  refine z_icmp_ne F 140 dX5_joined_133 (by decide) hf (fun hf _ => ?_) (fun hf _ => ?_)
                  · refine z_iconst F (0) dX5_joined_140 rfl ?_
                    have ee1 := Option.some.inj hf
                    subst ee1
                    exact z_iret F rfl rfl rfl rfl dX5_joined_141
                  · refine z_iconst F (1) dX5_joined_136 rfl ?_
                    refine z_goto F 141 dX5_joined_137 (by decide) ?_
                    have ee1 := Option.some.inj hf
                    subst ee1
                    exact z_iret F rfl rfl rfl rfl dX5_joined_141
                · replace hf := zif_f hf hc_8
                  by_cases hc_9 : x0 = 62
                  · replace hf := zif_t hf hc_9
                    refine z_lookup (off := 141) F 142 dX5_joined_1 (by decide +kernel) (by rw [hc_9]; decide +kernel) (by decide) ?_
                    refine z_iload_n F 1 dX5_joined_142 rfl rfl ?_
                    refine z_iload_n F 2 dX5_joined_143 rfl rfl ?_
                    refine z_icmp_le F 151 dX5_joined_144 (by decide) hf (fun hf _ => ?_) (fun hf _ => ?_)
                    · refine z_iconst F (0) dX5_joined_151 rfl ?_
                      have ee1 := Option.some.inj hf
                      subst ee1
                      exact z_iret F rfl rfl rfl rfl dX5_joined_152
                    · refine z_iconst F (1) dX5_joined_147 rfl ?_
                      refine z_goto F 152 dX5_joined_148 (by decide) ?_
                      have ee1 := Option.some.inj hf
                      subst ee1
                      exact z_iret F rfl rfl rfl rfl dX5_joined_152
                  · replace hf := zif_f hf hc_9
                    by_cases hc_10 : x0 = 124
                    · replace hf := zif_t hf hc_10
                      refine z_lookup (off := 91) F 92 dX5_joined_1 (by decide +kernel) (by rw [hc_10]; decide +kernel) (by decide) ?_
                      refine z_iload_n F 1 dX5_joined_92 rfl rfl ?_
                      refine z_if_ne F 100 dX5_joined_93 (by decide) hf (fun hf _ => ?_) (fun hf _ => ?_)
                      · refine z_iconst F (1) dX5_joined_100 rfl ?_
                        refine z_goto F 105 dX5_joined_101 (by decide) ?_
                        have ee1 := Option.some.inj hf
                        subst ee1
                        exact z_iret F rfl rfl rfl rfl dX5_joined_105
                      · refine z_iload_n F 2 dX5_joined_96 rfl rfl ?_
                        refine z_if_eq F 104 dX5_joined_97 (by decide) hf (fun hf _ => ?_) (fun hf _ => ?_)
                        · refine z_iconst F (0) dX5_joined_104 rfl ?_
                          have ee1 := Option.some.inj hf
                          subst ee1
                          exact z_iret F rfl rfl rfl rfl dX5_joined_105
                        · refine z_iconst F (1) dX5_joined_100 rfl ?_
                          refine z_goto F 105 dX5_joined_101 (by decide) ?_
                          have ee1 := Option.some.inj hf
                          subst ee1
                          exact z_iret F rfl rfl rfl rfl dX5_joined_105
                    · replace hf := zif_f hf hc_10
                      refine z_lookup (off := 188) F 189 dX5_joined_1 (by decide +kernel) (zlk x0 [(37, 176), (38, 105), (42, 160), (43, 152), (45, 156), (47, 164), (60, 119), (61, 130), (62, 141), (124, 91)] (188) (List.forall_mem_cons.mpr ⟨zne hc_1 (c := 37) (k := 37) rfl, List.forall_mem_cons.mpr ⟨zne hc_2 (c := 38) (k := 38) rfl, List.forall_mem_cons.mpr ⟨zne hc_3 (c := 42) (k := 42) rfl, List.forall_mem_cons.mpr ⟨zne hc_4 (c := 43) (k := 43) rfl, List.forall_mem_cons.mpr ⟨zne hc_5 (c := 45) (k := 45) rfl, List.forall_mem_cons.mpr ⟨zne hc_6 (c := 47) (k := 47) rfl, List.forall_mem_cons.mpr ⟨zne hc_7 (c := 60) (k := 60) rfl, List.forall_mem_cons.mpr ⟨zne hc_8 (c := 61) (k := 61) rfl, List.forall_mem_cons.mpr ⟨zne hc_9 (c := 62) (k := 62) rfl, List.forall_mem_cons.mpr ⟨zne hc_10 (c := 124) (k := 124) rfl, fun _ h => absurd h List.not_mem_nil⟩⟩⟩⟩⟩⟩⟩⟩⟩⟩)) (by decide) ?_
                      refine z_iconst F (0) dX5_joined_189 rfl ?_
                      have ee1 := Option.some.inj hf
                      subst ee1
                      exact z_iret F rfl rfl rfl rfl dX5_joined_190

abbrev w_Law_worth (G : zG) (a_this : Nat) (a_tape : Nat) (a_reader : Nat) (a_steps : Nat) (a_worked : Nat) (fed : Int32) (length_ : Int32) (top : Int32) (steps : Nat → Int32) (worked : Nat → Int32) : va_W := [(a_this, cO 5 [.ref a_tape, .int fed, .ref a_reader, .ref a_steps, .int length_, .ref a_worked, .int top]), (a_steps, cI G 121 steps), (a_worked, cI G 121 worked)]
def f_Law_worth_L11 (length_ : Int32) (steps : Nat → Int32) (v1 : Int32) (v2 : Int32) (v3 : Int32) (v4 : Int32) (v5 : Int32) : Nat → Int32 → (Nat → Int32) → Int32 → Int32 → Option (((Int32 × (Nat → Int32)) ⊕ (Int32 × Int32 × (Nat → Int32))))
  | 0, _, _, _, _ => none
  | fuel + 1, top, worked, v6, v7 => (if length_ ≤ v7 then (some (.inl (top, worked))) else (zg steps 121 v7 fun v_1 => (if v6 = 0 then (if v_1 < 0 then (if (-v_1) = 33 then (zb2 (f_Law_pop top worked) fun r_3 top_4 => (if r_3 = 0 then (zb2 (f_Law_push top_4 worked 1) fun top_9 worked_10 => (f_Law_worth_L11 length_ steps v1 v2 v3 v4 v5 fuel top_9 worked_10 v6 (v7 + 1))) else (zb2 (f_Law_push top_4 worked 0) fun top_6 worked_7 => (f_Law_worth_L11 length_ steps v1 v2 v3 v4 v5 fuel top_6 worked_7 v6 (v7 + 1))))) else (if (-v_1) = 59 then (zb2 (f_Law_pop top worked) fun r_13 top_14 => (some (.inr (r_13, top_14, worked)))) else (if (-v_1) = 63 then (zb2 (f_Law_pop top worked) fun r_17 top_18 => (if r_17 = 0 then (f_Law_worth_L11 length_ steps v1 v2 v3 v4 v5 fuel top_18 worked 1 (v7 + 1)) else (f_Law_worth_L11 length_ steps v1 v2 v3 v4 v5 fuel top_18 worked 0 (v7 + 1)))) else (if (-v_1) = 97 then (zb2 (f_Law_push top worked (f_Law_named (-v_1) v1 v2 v3 v4 v5)) fun top_22 worked_23 => (f_Law_worth_L11 length_ steps v1 v2 v3 v4 v5 fuel top_22 worked_23 v6 (v7 + 1))) else (if (-v_1) = 98 then (zb2 (f_Law_push top worked (f_Law_named (-v_1) v1 v2 v3 v4 v5)) fun top_27 worked_28 => (f_Law_worth_L11 length_ steps v1 v2 v3 v4 v5 fuel top_27 worked_28 v6 (v7 + 1))) else (if (-v_1) = 103 then (zb2 (f_Law_push top worked (f_Law_named (-v_1) v1 v2 v3 v4 v5)) fun top_32 worked_33 => (f_Law_worth_L11 length_ steps v1 v2 v3 v4 v5 fuel top_32 worked_33 v6 (v7 + 1))) else (if (-v_1) = 112 then (zb2 (f_Law_push top worked (f_Law_named (-v_1) v1 v2 v3 v4 v5)) fun top_37 worked_38 => (f_Law_worth_L11 length_ steps v1 v2 v3 v4 v5 fuel top_37 worked_38 v6 (v7 + 1))) else (if (-v_1) = 113 then (zb2 (f_Law_push top worked (f_Law_named (-v_1) v1 v2 v3 v4 v5)) fun top_42 worked_43 => (f_Law_worth_L11 length_ steps v1 v2 v3 v4 v5 fuel top_42 worked_43 v6 (v7 + 1))) else (if (-v_1) = 126 then (zb2 (f_Law_pop top worked) fun r_46 top_47 => (zb2 (f_Law_push top_47 worked (-r_46)) fun top_49 worked_50 => (f_Law_worth_L11 length_ steps v1 v2 v3 v4 v5 fuel top_49 worked_50 v6 (v7 + 1)))) else (zb2 (f_Law_pop top worked) fun r_52 top_53 => (zb2 (f_Law_pop top_53 worked) fun r_55 top_56 => (zb1 (f_Law_joined (-v_1) r_55 r_52) fun r_58 => (zb2 (f_Law_push top_56 worked r_58) fun top_60 worked_61 => (f_Law_worth_L11 length_ steps v1 v2 v3 v4 v5 fuel top_60 worked_61 v6 (v7 + 1))))))))))))))) else (zb2 (f_Law_push top worked v_1) fun top_63 worked_64 => (f_Law_worth_L11 length_ steps v1 v2 v3 v4 v5 fuel top_63 worked_64 v6 (v7 + 1)))) else (if v_1 = (-59) then (f_Law_worth_L11 length_ steps v1 v2 v3 v4 v5 fuel top worked 0 (v7 + 1)) else (f_Law_worth_L11 length_ steps v1 v2 v3 v4 v5 fuel top worked 1 (v7 + 1))))))
def f_Law_worth (length_ : Int32) (top : Int32) (steps : Nat → Int32) (worked : Nat → Int32) (x1 : Int32) (x2 : Int32) (x3 : Int32) (x4 : Int32) (x5 : Int32) : Option (Int32 × Int32 × (Nat → Int32)) := (zbs2 (f_Law_worth_L11 length_ steps x1 x2 x3 x4 x5 FU 0 worked 0 0) (fun top_66 worked_67 => (some (0, top_66, worked_67))) some)
set_option maxRecDepth 100000 in
set_option maxHeartbeats 4000000 in
theorem l_Law_worth_11 {X : zX} (G : zG) (a_this : Nat) (a_tape : Nat) (a_reader : Nat) (a_steps : Nat) (a_worked : Nat) (fed : Int32) (length_ : Int32) (steps : Nat → Int32) (v1 : Int32) (v2 : Int32) (v3 : Int32) (v4 : Int32) (v5 : Int32) {v0 : Option Value} {w0 : va_W} (F : zF X G cX5_worth RX5 10 (some .int) 1 25 v0 w0) (out : ((Int32 × (Nat → Int32)) ⊕ (Int32 × Int32 × (Nat → Int32)))) (hk : ∀ (e_top : Int32) (e_worked : Nat → Int32), out = .inl (e_top, e_worked) → Z X G 10 (w_Law_worth G a_this a_tape a_reader a_steps a_worked fed length_ e_top steps e_worked) [] 253 []) (hr : ∀ q : Int32 × Int32 × (Nat → Int32), out = .inr q → v0 = some (.int q.1) ∧ w0 = (w_Law_worth G a_this a_tape a_reader a_steps a_worked fed length_ (q.2.1) steps (q.2.2))) :
    ∀ (fuel : Nat) (top : Int32) (worked : Nat → Int32) (v6 : Int32) (v7 : Int32), f_Law_worth_L11 length_ steps v1 v2 v3 v4 v5 fuel top worked v6 v7 = some out → Z X G 10 (w_Law_worth G a_this a_tape a_reader a_steps a_worked fed length_ top steps worked) [(0, .ref a_this), (1, .int v1), (2, .int v2), (3, .int v3), (4, .int v4), (5, .int v5), (6, .int v6), (7, .int v7)] 11 [] := by
  intro fuel
  induction fuel with
  | zero => intro top worked v6 v7 hf; exact absurd ((f_Law_worth_L11.eq_1 ..).symm.trans hf) (fun h => by cases h)
  | succ fuel ih =>
    intro top worked v6 v7 hf
    replace hf := (f_Law_worth_L11.eq_2 ..).symm.trans hf
    refine z_iload F 7 dX5_worth_11 rfl ?_
    refine z_aload_n F 0 dX5_worth_13 rfl rfl ?_
    refine z_get F 0 5 4 inlX5 rfl rfl (by decide) fl_X5_34 rfl dX5_worth_14 ?_
    refine z_icmp_ge F 253 dX5_worth_17 (by decide) hf (fun hf _ => ?_) (fun hf _ => ?_)
    · exact z_sub [] rfl (hk _ _ (Option.some.inj hf).symm)
    · refine z_aload_n F 0 dX5_worth_20 rfl rfl ?_
      refine z_get F 0 5 3 inlX5 rfl rfl (by decide) fl_X5_24 rfl dX5_worth_21 ?_
      refine z_iload F 7 dX5_worth_24 rfl ?_
      refine z_iald F 1 rfl hf dX5_worth_26 (fun v_1 hf => ?_)
      refine z_istore F [(8, .int v_1), (0, .ref a_this), (1, .int v1), (2, .int v2), (3, .int v3), (4, .int v4), (5, .int v5), (6, .int v6), (7, .int v7)] dX5_worth_27 (by decide) rfl ?_
      refine z_iload F 7 dX5_worth_29 rfl ?_
      refine z_if_eq F 51 dX5_worth_31 (by decide) hf (fun hf _ => ?_) (fun hf _ => ?_)
      · refine z_iload F 0 dX5_worth_51 rfl ?_
        refine z_if_lt F 65 dX5_worth_53 (by decide) hf (fun hf _ => ?_) (fun hf _ => ?_)
        · refine z_iload F 0 dX5_worth_65 rfl ?_
          refine z_ineg F dX5_worth_67 ?_
          by_cases hc_2 : (-v_1) = 33
          · replace hf := zif_t hf hc_2
            refine z_lookup (off := 106) F 174 dX5_worth_68 (by decide +kernel) (by rw [hc_2]; decide +kernel) (by decide) ?_
            refine z_aload_n F 1 dX5_worth_174 rfl rfl ?_
            refine z_aload_n F 1 dX5_worth_175 rfl rfl ?_
            obtain ⟨r_3, top_4, hg, hf⟩ := zb2_some hf
            refine z_callVm (rest := [.ref a_this]) F 5 (c_Law_pop (xL X) G a_this a_tape a_reader a_steps a_worked fed length_ top worked r_3 top_4 hg) hy_X5_pop ml_X5_51 hd_X5_pop ⟨by omega, by omega⟩ rfl [0, 2] rfl rfl 0 rfl rfl (w_Law_worth G a_this a_tape a_reader a_steps a_worked fed length_ top_4 steps worked) [some 0, none, some 1] rfl (by decide +kernel) rfl rfl (Nat.le_of_ble_eq_true rfl) dX5_worth_176 (fun hz_5 => ?_)
            refine z_if_ne F 186 dX5_worth_179 (by decide) hf (fun hf _ => ?_) (fun hf _ => ?_)
            · refine z_iconst F (0) dX5_worth_186 rfl ?_
              obtain ⟨top_6, worked_7, hg, hf⟩ := zb2_some hf
              refine z_callVm (rest := []) F 5 (c_Law_push (xL X) G a_this a_tape a_reader a_steps a_worked fed length_ top_4 worked 0 top_6 worked_7 hg) hy_X5_push ml_X5_48 hd_X5_push ⟨by omega, by omega⟩ rfl [0, 2] rfl rfl 0 rfl rfl (w_Law_worth G a_this a_tape a_reader a_steps a_worked fed length_ top_6 steps worked_7) [some 0, none, some 1] rfl (by decide +kernel) rfl rfl (Nat.le_of_ble_eq_true rfl) dX5_worth_187 (fun hz_8 => ?_)
              refine z_goto F 247 dX5_worth_190 (by decide) ?_
              refine z_iinc F [(7, .int (v7 + 1)), (8, .int v_1), (0, .ref a_this), (1, .int v1), (2, .int v2), (3, .int v3), (4, .int v4), (5, .int v5), (6, .int v6)] dX5_worth_247 8 rfl rfl (by decide) rfl ?_
              refine z_goto F 11 dX5_worth_250 (by decide) ?_
              exact z_sub [2, 3, 4, 5, 6, 7, 8, 0] rfl (ih top_6 worked_7 v6 (v7 + 1) hf)
            · refine z_iconst F (1) dX5_worth_182 rfl ?_
              refine z_goto F 187 dX5_worth_183 (by decide) ?_
              obtain ⟨top_9, worked_10, hg, hf⟩ := zb2_some hf
              refine z_callVm (rest := []) F 5 (c_Law_push (xL X) G a_this a_tape a_reader a_steps a_worked fed length_ top_4 worked 1 top_9 worked_10 hg) hy_X5_push ml_X5_48 hd_X5_push ⟨by omega, by omega⟩ rfl [0, 2] rfl rfl 0 rfl rfl (w_Law_worth G a_this a_tape a_reader a_steps a_worked fed length_ top_9 steps worked_10) [some 0, none, some 1] rfl (by decide +kernel) rfl rfl (Nat.le_of_ble_eq_true rfl) dX5_worth_187 (fun hz_11 => ?_)
              refine z_goto F 247 dX5_worth_190 (by decide) ?_
              refine z_iinc F [(7, .int (v7 + 1)), (8, .int v_1), (0, .ref a_this), (1, .int v1), (2, .int v2), (3, .int v3), (4, .int v4), (5, .int v5), (6, .int v6)] dX5_worth_247 8 rfl rfl (by decide) rfl ?_
              refine z_goto F 11 dX5_worth_250 (by decide) ?_
              exact z_sub [2, 3, 4, 5, 6, 7, 8, 0] rfl (ih top_9 worked_10 v6 (v7 + 1) hf)
          · replace hf := zif_f hf hc_2
            by_cases hc_12 : (-v_1) = 59
            · replace hf := zif_t hf hc_12
              refine z_lookup (off := 84) F 152 dX5_worth_68 (by decide +kernel) (by rw [hc_12]; decide +kernel) (by decide) ?_
              refine z_aload_n F 1 dX5_worth_152 rfl rfl ?_
              obtain ⟨r_13, top_14, hg, hf⟩ := zb2_some hf
              refine z_callVm (rest := []) F 5 (c_Law_pop (xL X) G a_this a_tape a_reader a_steps a_worked fed length_ top worked r_13 top_14 hg) hy_X5_pop ml_X5_51 hd_X5_pop ⟨by omega, by omega⟩ rfl [0, 2] rfl rfl 0 rfl rfl (w_Law_worth G a_this a_tape a_reader a_steps a_worked fed length_ top_14 steps worked) [some 0, none, some 1] rfl (by decide +kernel) rfl rfl (Nat.le_of_ble_eq_true rfl) dX5_worth_153 (fun hz_15 => ?_)
              obtain ⟨e1, e2⟩ := hr _ (Option.some.inj hf).symm
              exact z_iret F rfl rfl e1.symm e2.symm dX5_worth_156
            · replace hf := zif_f hf hc_12
              by_cases hc_16 : (-v_1) = 63
              · replace hf := zif_t hf hc_16
                refine z_lookup (off := 89) F 157 dX5_worth_68 (by decide +kernel) (by rw [hc_16]; decide +kernel) (by decide) ?_
                refine z_aload_n F 1 dX5_worth_157 rfl rfl ?_
                obtain ⟨r_17, top_18, hg, hf⟩ := zb2_some hf
                refine z_callVm (rest := []) F 5 (c_Law_pop (xL X) G a_this a_tape a_reader a_steps a_worked fed length_ top worked r_17 top_18 hg) hy_X5_pop ml_X5_51 hd_X5_pop ⟨by omega, by omega⟩ rfl [0, 2] rfl rfl 0 rfl rfl (w_Law_worth G a_this a_tape a_reader a_steps a_worked fed length_ top_18 steps worked) [some 0, none, some 1] rfl (by decide +kernel) rfl rfl (Nat.le_of_ble_eq_true rfl) dX5_worth_158 (fun hz_19 => ?_)
                refine z_if_ne F 168 dX5_worth_161 (by decide) hf (fun hf _ => ?_) (fun hf _ => ?_)
                · refine z_iconst F (0) dX5_worth_168 rfl ?_
                  refine z_istore F [(6, .int 0), (8, .int v_1), (0, .ref a_this), (1, .int v1), (2, .int v2), (3, .int v3), (4, .int v4), (5, .int v5), (7, .int v7)] dX5_worth_169 (by decide) rfl ?_
                  refine z_goto F 247 dX5_worth_171 (by decide) ?_
                  refine z_iinc F [(7, .int (v7 + 1)), (6, .int 0), (8, .int v_1), (0, .ref a_this), (1, .int v1), (2, .int v2), (3, .int v3), (4, .int v4), (5, .int v5)] dX5_worth_247 8 rfl rfl (by decide) rfl ?_
                  refine z_goto F 11 dX5_worth_250 (by decide) ?_
                  exact z_sub [3, 4, 5, 6, 7, 8, 1, 0] rfl (ih top_18 worked 0 (v7 + 1) hf)
                · refine z_iconst F (1) dX5_worth_164 rfl ?_
                  refine z_goto F 169 dX5_worth_165 (by decide) ?_
                  refine z_istore F [(6, .int 1), (8, .int v_1), (0, .ref a_this), (1, .int v1), (2, .int v2), (3, .int v3), (4, .int v4), (5, .int v5), (7, .int v7)] dX5_worth_169 (by decide) rfl ?_
                  refine z_goto F 247 dX5_worth_171 (by decide) ?_
                  refine z_iinc F [(7, .int (v7 + 1)), (6, .int 1), (8, .int v_1), (0, .ref a_this), (1, .int v1), (2, .int v2), (3, .int v3), (4, .int v4), (5, .int v5)] dX5_worth_247 8 rfl rfl (by decide) rfl ?_
                  refine z_goto F 11 dX5_worth_250 (by decide) ?_
                  exact z_sub [3, 4, 5, 6, 7, 8, 1, 0] rfl (ih top_18 worked 1 (v7 + 1) hf)
              · replace hf := zif_f hf hc_16
                by_cases hc_20 : (-v_1) = 97
                · replace hf := zif_t hf hc_20
                  refine z_lookup (off := 137) F 205 dX5_worth_68 (by decide +kernel) (by rw [hc_20]; decide +kernel) (by decide) ?_
                  refine z_aload_n F 1 dX5_worth_205 rfl rfl ?_
                  refine z_iload F 0 dX5_worth_206 rfl ?_
                  refine z_ineg F dX5_worth_208 ?_
                  refine z_iload_n F 2 dX5_worth_209 rfl rfl ?_
                  refine z_iload_n F 3 dX5_worth_210 rfl rfl ?_
                  refine z_iload_n F 4 dX5_worth_211 rfl rfl ?_
                  refine z_iload F 5 dX5_worth_212 rfl ?_
                  refine z_iload F 6 dX5_worth_214 rfl ?_
                  refine z_callSm (rest := [.ref a_this]) F (c_Law_named (xL X) G (-v_1) v1 v2 v3 v4 v5 _ rfl) hy_X5_named ml_X5_55 hd_X5_named ⟨by omega, by omega⟩ rfl [] rfl rfl (w_Law_worth G a_this a_tape a_reader a_steps a_worked fed length_ top steps worked) [none, none, none] rfl (by decide +kernel) rfl rfl (Nat.le_of_ble_eq_true rfl) dX5_worth_216 (fun hz_21 => ?_)
                  obtain ⟨top_22, worked_23, hg, hf⟩ := zb2_some hf
                  refine z_callVm (rest := []) F 5 (c_Law_push (xL X) G a_this a_tape a_reader a_steps a_worked fed length_ top worked (f_Law_named (-v_1) v1 v2 v3 v4 v5) top_22 worked_23 hg) hy_X5_push ml_X5_48 hd_X5_push ⟨by omega, by omega⟩ rfl [0, 2] rfl rfl 0 rfl rfl (w_Law_worth G a_this a_tape a_reader a_steps a_worked fed length_ top_22 steps worked_23) [some 0, none, some 1] rfl (by decide +kernel) rfl rfl (Nat.le_of_ble_eq_true rfl) dX5_worth_219 (fun hz_24 => ?_)
                  refine z_goto F 247 dX5_worth_222 (by decide) ?_
                  refine z_iinc F [(7, .int (v7 + 1)), (8, .int v_1), (0, .ref a_this), (1, .int v1), (2, .int v2), (3, .int v3), (4, .int v4), (5, .int v5), (6, .int v6)] dX5_worth_247 8 rfl rfl (by decide) rfl ?_
                  refine z_goto F 11 dX5_worth_250 (by decide) ?_
                  exact z_sub [2, 3, 4, 5, 6, 7, 8, 0] rfl (ih top_22 worked_23 v6 (v7 + 1) hf)
                · replace hf := zif_f hf hc_20
                  by_cases hc_25 : (-v_1) = 98
                  · replace hf := zif_t hf hc_25
                    refine z_lookup (off := 137) F 205 dX5_worth_68 (by decide +kernel) (by rw [hc_25]; decide +kernel) (by decide) ?_
                    refine z_aload_n F 1 dX5_worth_205 rfl rfl ?_
                    refine z_iload F 0 dX5_worth_206 rfl ?_
                    refine z_ineg F dX5_worth_208 ?_
                    refine z_iload_n F 2 dX5_worth_209 rfl rfl ?_
                    refine z_iload_n F 3 dX5_worth_210 rfl rfl ?_
                    refine z_iload_n F 4 dX5_worth_211 rfl rfl ?_
                    refine z_iload F 5 dX5_worth_212 rfl ?_
                    refine z_iload F 6 dX5_worth_214 rfl ?_
                    refine z_callSm (rest := [.ref a_this]) F (c_Law_named (xL X) G (-v_1) v1 v2 v3 v4 v5 _ rfl) hy_X5_named ml_X5_55 hd_X5_named ⟨by omega, by omega⟩ rfl [] rfl rfl (w_Law_worth G a_this a_tape a_reader a_steps a_worked fed length_ top steps worked) [none, none, none] rfl (by decide +kernel) rfl rfl (Nat.le_of_ble_eq_true rfl) dX5_worth_216 (fun hz_26 => ?_)
                    obtain ⟨top_27, worked_28, hg, hf⟩ := zb2_some hf
                    refine z_callVm (rest := []) F 5 (c_Law_push (xL X) G a_this a_tape a_reader a_steps a_worked fed length_ top worked (f_Law_named (-v_1) v1 v2 v3 v4 v5) top_27 worked_28 hg) hy_X5_push ml_X5_48 hd_X5_push ⟨by omega, by omega⟩ rfl [0, 2] rfl rfl 0 rfl rfl (w_Law_worth G a_this a_tape a_reader a_steps a_worked fed length_ top_27 steps worked_28) [some 0, none, some 1] rfl (by decide +kernel) rfl rfl (Nat.le_of_ble_eq_true rfl) dX5_worth_219 (fun hz_29 => ?_)
                    refine z_goto F 247 dX5_worth_222 (by decide) ?_
                    refine z_iinc F [(7, .int (v7 + 1)), (8, .int v_1), (0, .ref a_this), (1, .int v1), (2, .int v2), (3, .int v3), (4, .int v4), (5, .int v5), (6, .int v6)] dX5_worth_247 8 rfl rfl (by decide) rfl ?_
                    refine z_goto F 11 dX5_worth_250 (by decide) ?_
                    exact z_sub [2, 3, 4, 5, 6, 7, 8, 0] rfl (ih top_27 worked_28 v6 (v7 + 1) hf)
                  · replace hf := zif_f hf hc_25
                    by_cases hc_30 : (-v_1) = 103
                    · replace hf := zif_t hf hc_30
                      refine z_lookup (off := 137) F 205 dX5_worth_68 (by decide +kernel) (by rw [hc_30]; decide +kernel) (by decide) ?_
                      refine z_aload_n F 1 dX5_worth_205 rfl rfl ?_
                      refine z_iload F 0 dX5_worth_206 rfl ?_
                      refine z_ineg F dX5_worth_208 ?_
                      refine z_iload_n F 2 dX5_worth_209 rfl rfl ?_
                      refine z_iload_n F 3 dX5_worth_210 rfl rfl ?_
                      refine z_iload_n F 4 dX5_worth_211 rfl rfl ?_
                      refine z_iload F 5 dX5_worth_212 rfl ?_
                      refine z_iload F 6 dX5_worth_214 rfl ?_
                      refine z_callSm (rest := [.ref a_this]) F (c_Law_named (xL X) G (-v_1) v1 v2 v3 v4 v5 _ rfl) hy_X5_named ml_X5_55 hd_X5_named ⟨by omega, by omega⟩ rfl [] rfl rfl (w_Law_worth G a_this a_tape a_reader a_steps a_worked fed length_ top steps worked) [none, none, none] rfl (by decide +kernel) rfl rfl (Nat.le_of_ble_eq_true rfl) dX5_worth_216 (fun hz_31 => ?_)
                      obtain ⟨top_32, worked_33, hg, hf⟩ := zb2_some hf
                      refine z_callVm (rest := []) F 5 (c_Law_push (xL X) G a_this a_tape a_reader a_steps a_worked fed length_ top worked (f_Law_named (-v_1) v1 v2 v3 v4 v5) top_32 worked_33 hg) hy_X5_push ml_X5_48 hd_X5_push ⟨by omega, by omega⟩ rfl [0, 2] rfl rfl 0 rfl rfl (w_Law_worth G a_this a_tape a_reader a_steps a_worked fed length_ top_32 steps worked_33) [some 0, none, some 1] rfl (by decide +kernel) rfl rfl (Nat.le_of_ble_eq_true rfl) dX5_worth_219 (fun hz_34 => ?_)
                      refine z_goto F 247 dX5_worth_222 (by decide) ?_
                      refine z_iinc F [(7, .int (v7 + 1)), (8, .int v_1), (0, .ref a_this), (1, .int v1), (2, .int v2), (3, .int v3), (4, .int v4), (5, .int v5), (6, .int v6)] dX5_worth_247 8 rfl rfl (by decide) rfl ?_
                      refine z_goto F 11 dX5_worth_250 (by decide) ?_
                      exact z_sub [2, 3, 4, 5, 6, 7, 8, 0] rfl (ih top_32 worked_33 v6 (v7 + 1) hf)
                    · replace hf := zif_f hf hc_30
                      by_cases hc_35 : (-v_1) = 112
                      · replace hf := zif_t hf hc_35
                        refine z_lookup (off := 137) F 205 dX5_worth_68 (by decide +kernel) (by rw [hc_35]; decide +kernel) (by decide) ?_
                        refine z_aload_n F 1 dX5_worth_205 rfl rfl ?_
                        refine z_iload F 0 dX5_worth_206 rfl ?_
                        refine z_ineg F dX5_worth_208 ?_
                        refine z_iload_n F 2 dX5_worth_209 rfl rfl ?_
                        refine z_iload_n F 3 dX5_worth_210 rfl rfl ?_
                        refine z_iload_n F 4 dX5_worth_211 rfl rfl ?_
                        refine z_iload F 5 dX5_worth_212 rfl ?_
                        refine z_iload F 6 dX5_worth_214 rfl ?_
                        refine z_callSm (rest := [.ref a_this]) F (c_Law_named (xL X) G (-v_1) v1 v2 v3 v4 v5 _ rfl) hy_X5_named ml_X5_55 hd_X5_named ⟨by omega, by omega⟩ rfl [] rfl rfl (w_Law_worth G a_this a_tape a_reader a_steps a_worked fed length_ top steps worked) [none, none, none] rfl (by decide +kernel) rfl rfl (Nat.le_of_ble_eq_true rfl) dX5_worth_216 (fun hz_36 => ?_)
                        obtain ⟨top_37, worked_38, hg, hf⟩ := zb2_some hf
                        refine z_callVm (rest := []) F 5 (c_Law_push (xL X) G a_this a_tape a_reader a_steps a_worked fed length_ top worked (f_Law_named (-v_1) v1 v2 v3 v4 v5) top_37 worked_38 hg) hy_X5_push ml_X5_48 hd_X5_push ⟨by omega, by omega⟩ rfl [0, 2] rfl rfl 0 rfl rfl (w_Law_worth G a_this a_tape a_reader a_steps a_worked fed length_ top_37 steps worked_38) [some 0, none, some 1] rfl (by decide +kernel) rfl rfl (Nat.le_of_ble_eq_true rfl) dX5_worth_219 (fun hz_39 => ?_)
                        refine z_goto F 247 dX5_worth_222 (by decide) ?_
                        refine z_iinc F [(7, .int (v7 + 1)), (8, .int v_1), (0, .ref a_this), (1, .int v1), (2, .int v2), (3, .int v3), (4, .int v4), (5, .int v5), (6, .int v6)] dX5_worth_247 8 rfl rfl (by decide) rfl ?_
                        refine z_goto F 11 dX5_worth_250 (by decide) ?_
                        exact z_sub [2, 3, 4, 5, 6, 7, 8, 0] rfl (ih top_37 worked_38 v6 (v7 + 1) hf)
                      · replace hf := zif_f hf hc_35
                        by_cases hc_40 : (-v_1) = 113
                        · replace hf := zif_t hf hc_40
                          refine z_lookup (off := 137) F 205 dX5_worth_68 (by decide +kernel) (by rw [hc_40]; decide +kernel) (by decide) ?_
                          refine z_aload_n F 1 dX5_worth_205 rfl rfl ?_
                          refine z_iload F 0 dX5_worth_206 rfl ?_
                          refine z_ineg F dX5_worth_208 ?_
                          refine z_iload_n F 2 dX5_worth_209 rfl rfl ?_
                          refine z_iload_n F 3 dX5_worth_210 rfl rfl ?_
                          refine z_iload_n F 4 dX5_worth_211 rfl rfl ?_
                          refine z_iload F 5 dX5_worth_212 rfl ?_
                          refine z_iload F 6 dX5_worth_214 rfl ?_
                          refine z_callSm (rest := [.ref a_this]) F (c_Law_named (xL X) G (-v_1) v1 v2 v3 v4 v5 _ rfl) hy_X5_named ml_X5_55 hd_X5_named ⟨by omega, by omega⟩ rfl [] rfl rfl (w_Law_worth G a_this a_tape a_reader a_steps a_worked fed length_ top steps worked) [none, none, none] rfl (by decide +kernel) rfl rfl (Nat.le_of_ble_eq_true rfl) dX5_worth_216 (fun hz_41 => ?_)
                          obtain ⟨top_42, worked_43, hg, hf⟩ := zb2_some hf
                          refine z_callVm (rest := []) F 5 (c_Law_push (xL X) G a_this a_tape a_reader a_steps a_worked fed length_ top worked (f_Law_named (-v_1) v1 v2 v3 v4 v5) top_42 worked_43 hg) hy_X5_push ml_X5_48 hd_X5_push ⟨by omega, by omega⟩ rfl [0, 2] rfl rfl 0 rfl rfl (w_Law_worth G a_this a_tape a_reader a_steps a_worked fed length_ top_42 steps worked_43) [some 0, none, some 1] rfl (by decide +kernel) rfl rfl (Nat.le_of_ble_eq_true rfl) dX5_worth_219 (fun hz_44 => ?_)
                          refine z_goto F 247 dX5_worth_222 (by decide) ?_
                          refine z_iinc F [(7, .int (v7 + 1)), (8, .int v_1), (0, .ref a_this), (1, .int v1), (2, .int v2), (3, .int v3), (4, .int v4), (5, .int v5), (6, .int v6)] dX5_worth_247 8 rfl rfl (by decide) rfl ?_
                          refine z_goto F 11 dX5_worth_250 (by decide) ?_
                          exact z_sub [2, 3, 4, 5, 6, 7, 8, 0] rfl (ih top_42 worked_43 v6 (v7 + 1) hf)
                        · replace hf := zif_f hf hc_40
                          by_cases hc_45 : (-v_1) = 126
                          · replace hf := zif_t hf hc_45
                            refine z_lookup (off := 125) F 193 dX5_worth_68 (by decide +kernel) (by rw [hc_45]; decide +kernel) (by decide) ?_
                            refine z_aload_n F 1 dX5_worth_193 rfl rfl ?_
                            refine z_aload_n F 1 dX5_worth_194 rfl rfl ?_
                            obtain ⟨r_46, top_47, hg, hf⟩ := zb2_some hf
                            refine z_callVm (rest := [.ref a_this]) F 5 (c_Law_pop (xL X) G a_this a_tape a_reader a_steps a_worked fed length_ top worked r_46 top_47 hg) hy_X5_pop ml_X5_51 hd_X5_pop ⟨by omega, by omega⟩ rfl [0, 2] rfl rfl 0 rfl rfl (w_Law_worth G a_this a_tape a_reader a_steps a_worked fed length_ top_47 steps worked) [some 0, none, some 1] rfl (by decide +kernel) rfl rfl (Nat.le_of_ble_eq_true rfl) dX5_worth_195 (fun hz_48 => ?_)
                            refine z_ineg F dX5_worth_198 ?_
                            obtain ⟨top_49, worked_50, hg, hf⟩ := zb2_some hf
                            refine z_callVm (rest := []) F 5 (c_Law_push (xL X) G a_this a_tape a_reader a_steps a_worked fed length_ top_47 worked (-r_46) top_49 worked_50 hg) hy_X5_push ml_X5_48 hd_X5_push ⟨by omega, by omega⟩ rfl [0, 2] rfl rfl 0 rfl rfl (w_Law_worth G a_this a_tape a_reader a_steps a_worked fed length_ top_49 steps worked_50) [some 0, none, some 1] rfl (by decide +kernel) rfl rfl (Nat.le_of_ble_eq_true rfl) dX5_worth_199 (fun hz_51 => ?_)
                            refine z_goto F 247 dX5_worth_202 (by decide) ?_
                            refine z_iinc F [(7, .int (v7 + 1)), (8, .int v_1), (0, .ref a_this), (1, .int v1), (2, .int v2), (3, .int v3), (4, .int v4), (5, .int v5), (6, .int v6)] dX5_worth_247 8 rfl rfl (by decide) rfl ?_
                            refine z_goto F 11 dX5_worth_250 (by decide) ?_
                            exact z_sub [2, 3, 4, 5, 6, 7, 8, 0] rfl (ih top_49 worked_50 v6 (v7 + 1) hf)
                          · replace hf := zif_f hf hc_45
                            refine z_lookup (off := 157) F 225 dX5_worth_68 (by decide +kernel) (zlk (-v_1) [(33, 106), (59, 84), (63, 89), (97, 137), (98, 137), (103, 137), (112, 137), (113, 137), (126, 125)] (157) (List.forall_mem_cons.mpr ⟨zne hc_2 (c := 33) (k := 33) rfl, List.forall_mem_cons.mpr ⟨zne hc_12 (c := 59) (k := 59) rfl, List.forall_mem_cons.mpr ⟨zne hc_16 (c := 63) (k := 63) rfl, List.forall_mem_cons.mpr ⟨zne hc_20 (c := 97) (k := 97) rfl, List.forall_mem_cons.mpr ⟨zne hc_25 (c := 98) (k := 98) rfl, List.forall_mem_cons.mpr ⟨zne hc_30 (c := 103) (k := 103) rfl, List.forall_mem_cons.mpr ⟨zne hc_35 (c := 112) (k := 112) rfl, List.forall_mem_cons.mpr ⟨zne hc_40 (c := 113) (k := 113) rfl, List.forall_mem_cons.mpr ⟨zne hc_45 (c := 126) (k := 126) rfl, fun _ h => absurd h List.not_mem_nil⟩⟩⟩⟩⟩⟩⟩⟩⟩)) (by decide) ?_
                            refine z_aload_n F 1 dX5_worth_225 rfl rfl ?_
                            obtain ⟨r_52, top_53, hg, hf⟩ := zb2_some hf
                            refine z_callVm (rest := []) F 5 (c_Law_pop (xL X) G a_this a_tape a_reader a_steps a_worked fed length_ top worked r_52 top_53 hg) hy_X5_pop ml_X5_51 hd_X5_pop ⟨by omega, by omega⟩ rfl [0, 2] rfl rfl 0 rfl rfl (w_Law_worth G a_this a_tape a_reader a_steps a_worked fed length_ top_53 steps worked) [some 0, none, some 1] rfl (by decide +kernel) rfl rfl (Nat.le_of_ble_eq_true rfl) dX5_worth_226 (fun hz_54 => ?_)
                            refine z_istore F [(9, .int r_52), (8, .int v_1), (0, .ref a_this), (1, .int v1), (2, .int v2), (3, .int v3), (4, .int v4), (5, .int v5), (6, .int v6), (7, .int v7)] dX5_worth_229 (by decide) rfl ?_
                            refine z_aload_n F 2 dX5_worth_231 rfl rfl ?_
                            refine z_iload F 1 dX5_worth_232 rfl ?_
                            refine z_ineg F dX5_worth_234 ?_
                            refine z_aload_n F 2 dX5_worth_235 rfl rfl ?_
                            obtain ⟨r_55, top_56, hg, hf⟩ := zb2_some hf
                            refine z_callVm (rest := [.int (-v_1), .ref a_this]) F 5 (c_Law_pop (xL X) G a_this a_tape a_reader a_steps a_worked fed length_ top_53 worked r_55 top_56 hg) hy_X5_pop ml_X5_51 hd_X5_pop ⟨by omega, by omega⟩ rfl [0, 2] rfl rfl 0 rfl rfl (w_Law_worth G a_this a_tape a_reader a_steps a_worked fed length_ top_56 steps worked) [some 0, none, some 1] rfl (by decide +kernel) rfl rfl (Nat.le_of_ble_eq_true rfl) dX5_worth_236 (fun hz_57 => ?_)
                            refine z_iload F 0 dX5_worth_239 rfl ?_
                            obtain ⟨r_58, hg, hf⟩ := zb1_some hf
                            refine z_callSm (rest := [.ref a_this]) F (c_Law_joined (xL X) G (-v_1) r_55 r_52 r_58 hg) hy_X5_joined ml_X5_59 hd_X5_joined ⟨by omega, by omega⟩ rfl [] rfl rfl (w_Law_worth G a_this a_tape a_reader a_steps a_worked fed length_ top_56 steps worked) [none, none, none] rfl (by decide +kernel) rfl rfl (Nat.le_of_ble_eq_true rfl) dX5_worth_241 (fun hz_59 => ?_)
                            obtain ⟨top_60, worked_61, hg, hf⟩ := zb2_some hf
                            refine z_callVm (rest := []) F 5 (c_Law_push (xL X) G a_this a_tape a_reader a_steps a_worked fed length_ top_56 worked r_58 top_60 worked_61 hg) hy_X5_push ml_X5_48 hd_X5_push ⟨by omega, by omega⟩ rfl [0, 2] rfl rfl 0 rfl rfl (w_Law_worth G a_this a_tape a_reader a_steps a_worked fed length_ top_60 steps worked_61) [some 0, none, some 1] rfl (by decide +kernel) rfl rfl (Nat.le_of_ble_eq_true rfl) dX5_worth_244 (fun hz_62 => ?_)
                            refine z_iinc F [(7, .int (v7 + 1)), (9, .int r_52), (8, .int v_1), (0, .ref a_this), (1, .int v1), (2, .int v2), (3, .int v3), (4, .int v4), (5, .int v5), (6, .int v6)] dX5_worth_247 9 rfl rfl (by decide) rfl ?_
                            refine z_goto F 11 dX5_worth_250 (by decide) ?_
                            exact z_sub [3, 4, 5, 6, 7, 8, 9, 0] rfl (ih top_60 worked_61 v6 (v7 + 1) hf)
        · refine z_aload_n F 1 dX5_worth_56 rfl rfl ?_
          refine z_iload F 0 dX5_worth_57 rfl ?_
          obtain ⟨top_63, worked_64, hg, hf⟩ := zb2_some hf
          refine z_callVm (rest := []) F 5 (c_Law_push (xL X) G a_this a_tape a_reader a_steps a_worked fed length_ top worked v_1 top_63 worked_64 hg) hy_X5_push ml_X5_48 hd_X5_push ⟨by omega, by omega⟩ rfl [0, 2] rfl rfl 0 rfl rfl (w_Law_worth G a_this a_tape a_reader a_steps a_worked fed length_ top_63 steps worked_64) [some 0, none, some 1] rfl (by decide +kernel) rfl rfl (Nat.le_of_ble_eq_true rfl) dX5_worth_59 (fun hz_65 => ?_)
          refine z_goto F 247 dX5_worth_62 (by decide) ?_
          refine z_iinc F [(7, .int (v7 + 1)), (8, .int v_1), (0, .ref a_this), (1, .int v1), (2, .int v2), (3, .int v3), (4, .int v4), (5, .int v5), (6, .int v6)] dX5_worth_247 8 rfl rfl (by decide) rfl ?_
          refine z_goto F 11 dX5_worth_250 (by decide) ?_
          exact z_sub [2, 3, 4, 5, 6, 7, 8, 0] rfl (ih top_63 worked_64 v6 (v7 + 1) hf)
      · refine z_iload F 0 dX5_worth_34 rfl ?_
        refine z_bipush F (-59) dX5_worth_36 rfl ?_
        refine z_icmp_eq F 45 dX5_worth_38 (by decide) hf (fun hf _ => ?_) (fun hf _ => ?_)
        · refine z_iconst F (0) dX5_worth_45 rfl ?_
          refine z_istore F [(6, .int 0), (8, .int v_1), (0, .ref a_this), (1, .int v1), (2, .int v2), (3, .int v3), (4, .int v4), (5, .int v5), (7, .int v7)] dX5_worth_46 (by decide) rfl ?_
          refine z_goto F 247 dX5_worth_48 (by decide) ?_
          refine z_iinc F [(7, .int (v7 + 1)), (6, .int 0), (8, .int v_1), (0, .ref a_this), (1, .int v1), (2, .int v2), (3, .int v3), (4, .int v4), (5, .int v5)] dX5_worth_247 8 rfl rfl (by decide) rfl ?_
          refine z_goto F 11 dX5_worth_250 (by decide) ?_
          exact z_sub [3, 4, 5, 6, 7, 8, 1, 0] rfl (ih top worked 0 (v7 + 1) hf)
        · refine z_iconst F (1) dX5_worth_41 rfl ?_
          refine z_goto F 46 dX5_worth_42 (by decide) ?_
          refine z_istore F [(6, .int 1), (8, .int v_1), (0, .ref a_this), (1, .int v1), (2, .int v2), (3, .int v3), (4, .int v4), (5, .int v5), (7, .int v7)] dX5_worth_46 (by decide) rfl ?_
          refine z_goto F 247 dX5_worth_48 (by decide) ?_
          refine z_iinc F [(7, .int (v7 + 1)), (6, .int 1), (8, .int v_1), (0, .ref a_this), (1, .int v1), (2, .int v2), (3, .int v3), (4, .int v4), (5, .int v5)] dX5_worth_247 8 rfl rfl (by decide) rfl ?_
          refine z_goto F 11 dX5_worth_250 (by decide) ?_
          exact z_sub [3, 4, 5, 6, 7, 8, 1, 0] rfl (ih top worked 1 (v7 + 1) hf)

set_option maxRecDepth 100000 in
set_option maxHeartbeats 4000000 in
theorem c_Law_worth (l : Launch) (G : zG) (a_this : Nat) (a_tape : Nat) (a_reader : Nat) (a_steps : Nat) (a_worked : Nat) (fed : Int32) (length_ : Int32) (top : Int32) (steps : Nat → Int32) (worked : Nat → Int32) (x1 : Int32) (x2 : Int32) (x3 : Int32) (x4 : Int32) (x5 : Int32) (r_ : Int32) (o_top : Int32) (o_worked : Nat → Int32) (hf : f_Law_worth length_ top steps worked x1 x2 x3 x4 x5 = some (r_, o_top, o_worked)) : zM l yX5_worth cX5_worth 10 (some .int) 1 25 G [.ref a_this, .int x1, .int x2, .int x3, .int x4, .int x5] (w_Law_worth G a_this a_tape a_reader a_steps a_worked fed length_ top steps worked) (some (.int r_)) (w_Law_worth G a_this a_tape a_reader a_steps a_worked fed length_ o_top steps o_worked) := by
  refine zM.of [(0, .ref a_this), (1, .int x1), (2, .int x2), (3, .int x3), (4, .int x4), (5, .int x5)] (own := RX5) rfl (by decide +kernel) (Nat.le_of_ble_eq_true rfl) rfl rfl fun X hX F => ?_
  subst hX
  replace hf := (f_Law_worth.eq_1 ..).symm.trans hf
  refine z_aload_n F 0 dX5_worth_0 rfl rfl ?_
  refine z_iconst F (0) dX5_worth_1 rfl ?_
  refine z_put F 0 5 6 (w_Law_worth G a_this a_tape a_reader a_steps a_worked fed length_ 0 steps worked) inlX5 tyX5 tyX5_ok nmX5 rfl rfl (by decide) fl_X5_45 rfl rfl rfl (Nat.le_of_ble_eq_true rfl) rfl dX5_worth_2 ?_
  refine z_iconst F (0) dX5_worth_5 rfl ?_
  refine z_istore F [(6, .int 0), (0, .ref a_this), (1, .int x1), (2, .int x2), (3, .int x3), (4, .int x4), (5, .int x5)] dX5_worth_6 (by decide) rfl ?_
  refine z_iconst F (0) dX5_worth_8 rfl ?_
  refine z_istore F [(7, .int 0), (6, .int 0), (0, .ref a_this), (1, .int x1), (2, .int x2), (3, .int x3), (4, .int x4), (5, .int x5)] dX5_worth_9 (by decide) rfl ?_
  obtain ⟨z_68, hg, hf1_69, hf2_70⟩ := zbs2_some hf
  refine z_sub [2, 3, 4, 5, 6, 7, 1, 0] rfl ?_
  refine l_Law_worth_11 G a_this a_tape a_reader a_steps a_worked fed length_ steps x1 x2 x3 x4 x5 F z_68 (fun top_66 worked_67 e => ?_) (fun q e => ?_) FU 0 worked 0 0 hg
  · have hf := hf1_69 _ _ e
    refine z_iconst F (0) dX5_worth_253 rfl ?_
    have eq1 := Option.some.inj hf
    obtain ⟨ee1, eq2⟩ := Prod.mk.inj eq1
    obtain ⟨ee2, ee3⟩ := Prod.mk.inj eq2
    subst ee1
    subst ee2
    subst ee3
    exact z_iret F rfl rfl rfl rfl dX5_worth_254
  · have hf := hf2_70 _ e
    cases hf
    exact ⟨rfl, rfl⟩

abbrev w_Law_take (G : zG) (a_this : Nat) (a_tape : Nat) (a_reader : Nat) (a_steps : Nat) (a_worked : Nat) (fed : Int32) (length_ : Int32) (top : Int32) (tape : Nat → Int32) : va_W := [(a_this, cO 5 [.ref a_tape, .int fed, .ref a_reader, .ref a_steps, .int length_, .ref a_worked, .int top]), (a_tape, cI G 120 tape)]
def f_Law_take (fed : Int32) (tape : Nat → Int32) (x1 : Int32) : Option (Int32 × Int32 × (Nat → Int32)) := (if fed < 120 then (zs tape 120 fed x1 fun tape_1 => (some ((fed + (1 : Int32)), (fed + (1 : Int32)), tape_1))) else (some ((-3), fed, tape)))
set_option maxRecDepth 100000 in
set_option maxHeartbeats 4000000 in
theorem c_Law_take (l : Launch) (G : zG) (a_this : Nat) (a_tape : Nat) (a_reader : Nat) (a_steps : Nat) (a_worked : Nat) (fed : Int32) (length_ : Int32) (top : Int32) (tape : Nat → Int32) (x1 : Int32) (r_ : Int32) (o_fed : Int32) (o_tape : Nat → Int32) (hf : f_Law_take fed tape x1 = some (r_, o_fed, o_tape)) : zM l yX5_take cX5_take 2 (some .int) 0 0 G [.ref a_this, .int x1] (w_Law_take G a_this a_tape a_reader a_steps a_worked fed length_ top tape) (some (.int r_)) (w_Law_take G a_this a_tape a_reader a_steps a_worked o_fed length_ top o_tape) := by
  refine zM.of [(0, .ref a_this), (1, .int x1)] (own := RX5) rfl (by decide +kernel) (Nat.le_of_ble_eq_true rfl) rfl rfl fun X hX F => ?_
  subst hX
  replace hf := (f_Law_take.eq_1 ..).symm.trans hf
  refine z_aload_n F 0 dX5_take_0 rfl rfl ?_
  refine z_get F 0 5 1 inlX5 rfl rfl (by decide) fl_X5_30 rfl dX5_take_1 ?_
  refine z_bipush F (120) dX5_take_4 rfl ?_
  refine z_icmp_lt F 12 dX5_take_6 (by decide) hf (fun hf _ => ?_) (fun hf _ => ?_)
  · refine z_aload_n F 0 dX5_take_12 rfl rfl ?_
    refine z_get F 0 5 0 inlX5 rfl rfl (by decide) fl_X5_11 rfl dX5_take_13 ?_
    refine z_aload_n F 0 dX5_take_16 rfl rfl ?_
    refine z_get F 0 5 1 inlX5 rfl rfl (by decide) fl_X5_30 rfl dX5_take_17 ?_
    refine z_iload_n F 1 dX5_take_20 rfl rfl ?_
    refine z_iast F 1 (fun tape_1 => (w_Law_take G a_this a_tape a_reader a_steps a_worked fed length_ top tape_1)) rfl hf (fun _ => rfl) dX5_take_21 (fun tape_1 hf => ?_)
    refine z_aload_n F 0 dX5_take_22 rfl rfl ?_
    refine z_dup F rfl dX5_take_23 ?_
    refine z_get F 0 5 1 inlX5 rfl rfl (by decide) fl_X5_30 rfl dX5_take_24 ?_
    refine z_iconst F (1) dX5_take_27 rfl ?_
    refine z_iadd F dX5_take_28 ?_
    refine z_put F 0 5 1 (w_Law_take G a_this a_tape a_reader a_steps a_worked (fed + (1 : Int32)) length_ top tape_1) inlX5 tyX5 tyX5_ok nmX5 rfl rfl (by decide) fl_X5_30 rfl rfl rfl (Nat.le_of_ble_eq_true rfl) rfl dX5_take_29 ?_
    refine z_aload_n F 0 dX5_take_32 rfl rfl ?_
    refine z_get F 0 5 1 inlX5 rfl rfl (by decide) fl_X5_30 rfl dX5_take_33 ?_
    have eq1 := Option.some.inj hf
    obtain ⟨ee1, eq2⟩ := Prod.mk.inj eq1
    obtain ⟨ee2, ee3⟩ := Prod.mk.inj eq2
    subst ee1
    subst ee2
    subst ee3
    exact z_iret F rfl rfl rfl rfl dX5_take_36
  · refine z_bipush F (-3) dX5_take_9 rfl ?_
    have eq1 := Option.some.inj hf
    obtain ⟨ee1, eq2⟩ := Prod.mk.inj eq1
    obtain ⟨ee2, ee3⟩ := Prod.mk.inj eq2
    subst ee1
    subst ee2
    subst ee3
    exact z_iret F rfl rfl rfl rfl dX5_take_11

abbrev w_Law_enact (G : zG) (a_this : Nat) (a_tape : Nat) (a_reader : Nat) (a_steps : Nat) (a_worked : Nat) (a_reader_steps : Nat) (a_reader_waiting : Nat) (fed : Int32) (length_ : Int32) (top : Int32) (tape : Nat → Int32) (reader_length : Int32) (reader_waits : Int32) (reader_open : Int32) (reader_wantsOperand : Int32) (reader_isAsked : Int32) (reader_steps : Nat → Int32) (reader_waiting : Nat → Int32) (steps : Nat → Int32) : va_W := [(a_this, cO 5 [.ref a_tape, .int fed, .ref a_reader, .ref a_steps, .int length_, .ref a_worked, .int top]), (a_tape, cI G 120 tape), (a_reader, cO 6 [.ref a_reader_steps, .int reader_length, .ref a_reader_waiting, .int reader_waits, .int reader_open, .int reader_wantsOperand, .int reader_isAsked]), (a_reader_steps, cI G 121 reader_steps), (a_reader_waiting, cI G 120 reader_waiting), (a_steps, cI G 121 steps)]
def f_Law_enact (fed : Int32) (length_ : Int32) (tape : Nat → Int32) (reader_length : Int32) (reader_waits : Int32) (reader_open : Int32) (reader_wantsOperand : Int32) (reader_isAsked : Int32) (reader_steps : Nat → Int32) (reader_waiting : Nat → Int32) (steps : Nat → Int32) : Option (Int32 × Int32 × Int32 × Int32 × Int32 × Int32 × Int32 × Int32 × (Nat → Int32) × (Nat → Int32) × (Nat → Int32)) := (zb8 (f_LawReader_read reader_length reader_waits reader_open reader_wantsOperand reader_isAsked reader_steps reader_waiting tape fed) fun r_1 reader_length_2 reader_waits_3 reader_open_4 reader_wantsOperand_5 reader_isAsked_6 reader_steps_7 reader_waiting_8 => (if (0 : Int32) ≤ r_1 then (some (r_1, 0, length_, reader_length_2, reader_waits_3, reader_open_4, reader_wantsOperand_5, reader_isAsked_6, reader_steps_7, reader_waiting_8, steps)) else (zb2 (f_LawReader_copySteps reader_length_2 reader_steps_7 steps) fun r_10 steps_11 => (some (r_1, 0, r_10, reader_length_2, reader_waits_3, reader_open_4, reader_wantsOperand_5, reader_isAsked_6, reader_steps_7, reader_waiting_8, steps_11)))))
set_option maxRecDepth 100000 in
set_option maxHeartbeats 4000000 in
theorem c_Law_enact (l : Launch) (G : zG) (a_this : Nat) (a_tape : Nat) (a_reader : Nat) (a_steps : Nat) (a_worked : Nat) (a_reader_steps : Nat) (a_reader_waiting : Nat) (fed : Int32) (length_ : Int32) (top : Int32) (tape : Nat → Int32) (reader_length : Int32) (reader_waits : Int32) (reader_open : Int32) (reader_wantsOperand : Int32) (reader_isAsked : Int32) (reader_steps : Nat → Int32) (reader_waiting : Nat → Int32) (steps : Nat → Int32) (r_ : Int32) (o_fed : Int32) (o_length_ : Int32) (o_reader_length : Int32) (o_reader_waits : Int32) (o_reader_open : Int32) (o_reader_wantsOperand : Int32) (o_reader_isAsked : Int32) (o_reader_steps : Nat → Int32) (o_reader_waiting : Nat → Int32) (o_steps : Nat → Int32) (hf : f_Law_enact fed length_ tape reader_length reader_waits reader_open reader_wantsOperand reader_isAsked reader_steps reader_waiting steps = some (r_, o_fed, o_length_, o_reader_length, o_reader_waits, o_reader_open, o_reader_wantsOperand, o_reader_isAsked, o_reader_steps, o_reader_waiting, o_steps)) : zM l yX5_enact cX5_enact 2 (some .int) 5 142 G [.ref a_this] (w_Law_enact G a_this a_tape a_reader a_steps a_worked a_reader_steps a_reader_waiting fed length_ top tape reader_length reader_waits reader_open reader_wantsOperand reader_isAsked reader_steps reader_waiting steps) (some (.int r_)) (w_Law_enact G a_this a_tape a_reader a_steps a_worked a_reader_steps a_reader_waiting o_fed o_length_ top tape o_reader_length o_reader_waits o_reader_open o_reader_wantsOperand o_reader_isAsked o_reader_steps o_reader_waiting o_steps) := by
  refine zM.of [(0, .ref a_this)] (own := RX5) rfl (by decide +kernel) (Nat.le_of_ble_eq_true rfl) rfl rfl fun X hX F => ?_
  subst hX
  replace hf := (f_Law_enact.eq_1 ..).symm.trans hf
  refine z_aload_n F 0 dX5_enact_0 rfl rfl ?_
  refine z_get F 0 5 2 inlX5 rfl rfl (by decide) fl_X5_20 rfl dX5_enact_1 ?_
  refine z_aload_n F 0 dX5_enact_4 rfl rfl ?_
  refine z_get F 0 5 0 inlX5 rfl rfl (by decide) fl_X5_11 rfl dX5_enact_5 ?_
  refine z_aload_n F 0 dX5_enact_8 rfl rfl ?_
  refine z_get F 0 5 1 inlX5 rfl rfl (by decide) fl_X5_30 rfl dX5_enact_9 ?_
  obtain ⟨r_1, reader_length_2, reader_waits_3, reader_open_4, reader_wantsOperand_5, reader_isAsked_6, reader_steps_7, reader_waiting_8, hg, hf⟩ := zb8_some hf
  refine z_callVm (rest := []) F 6 (c_LawReader_read (xL X) G a_reader a_reader_steps a_reader_waiting a_tape reader_length reader_waits reader_open reader_wantsOperand reader_isAsked reader_steps reader_waiting tape fed r_1 reader_length_2 reader_waits_3 reader_open_4 reader_wantsOperand_5 reader_isAsked_6 reader_steps_7 reader_waiting_8 hg) hy_X6_read ml_X5_37 hd_X6_read ⟨by omega, by omega⟩ rfl [2, 3, 4, 1] rfl rfl 2 rfl rfl (w_Law_enact G a_this a_tape a_reader a_steps a_worked a_reader_steps a_reader_waiting fed length_ top tape reader_length_2 reader_waits_3 reader_open_4 reader_wantsOperand_5 reader_isAsked_6 reader_steps_7 reader_waiting_8 steps) [none, some 3, some 0, some 1, some 2, none] rfl (by decide +kernel) rfl rfl (Nat.le_of_ble_eq_true rfl) dX5_enact_12 (fun hz_9 => ?_)
  refine z_istore_n F [(1, .int r_1), (0, .ref a_this)] dX5_enact_15 rfl (by decide) rfl ?_
  refine z_aload_n F 1 dX5_enact_16 rfl rfl ?_
  refine z_iconst F (0) dX5_enact_17 rfl ?_
  refine z_put F 0 5 1 (w_Law_enact G a_this a_tape a_reader a_steps a_worked a_reader_steps a_reader_waiting 0 length_ top tape reader_length_2 reader_waits_3 reader_open_4 reader_wantsOperand_5 reader_isAsked_6 reader_steps_7 reader_waiting_8 steps) inlX5 tyX5 tyX5_ok nmX5 rfl rfl (by decide) fl_X5_30 rfl rfl rfl (Nat.le_of_ble_eq_true rfl) rfl dX5_enact_18 ?_
  refine z_iload_n F 0 dX5_enact_21 rfl rfl ?_
  refine z_if_ge F 40 dX5_enact_22 (by decide) hf (fun hf _ => ?_) (fun hf _ => ?_)
  · refine z_iload_n F 0 dX5_enact_40 rfl rfl ?_
    have eq1 := Option.some.inj hf
    obtain ⟨ee1, eq2⟩ := Prod.mk.inj eq1
    obtain ⟨ee2, eq3⟩ := Prod.mk.inj eq2
    obtain ⟨ee3, eq4⟩ := Prod.mk.inj eq3
    obtain ⟨ee4, eq5⟩ := Prod.mk.inj eq4
    obtain ⟨ee5, eq6⟩ := Prod.mk.inj eq5
    obtain ⟨ee6, eq7⟩ := Prod.mk.inj eq6
    obtain ⟨ee7, eq8⟩ := Prod.mk.inj eq7
    obtain ⟨ee8, eq9⟩ := Prod.mk.inj eq8
    obtain ⟨ee9, eq10⟩ := Prod.mk.inj eq9
    obtain ⟨ee10, ee11⟩ := Prod.mk.inj eq10
    subst ee1
    subst ee2
    subst ee3
    subst ee4
    subst ee5
    subst ee6
    subst ee7
    subst ee8
    subst ee9
    subst ee10
    subst ee11
    exact z_iret F rfl rfl rfl rfl dX5_enact_41
  · refine z_aload_n F 1 dX5_enact_25 rfl rfl ?_
    refine z_aload_n F 1 dX5_enact_26 rfl rfl ?_
    refine z_get F 0 5 2 inlX5 rfl rfl (by decide) fl_X5_20 rfl dX5_enact_27 ?_
    refine z_aload_n F 1 dX5_enact_30 rfl rfl ?_
    refine z_get F 0 5 3 inlX5 rfl rfl (by decide) fl_X5_24 rfl dX5_enact_31 ?_
    obtain ⟨r_10, steps_11, hg, hf⟩ := zb2_some hf
    refine z_callVm (rest := [.ref a_this]) F 6 (c_LawReader_copySteps (xL X) G a_reader a_reader_steps a_reader_waiting a_steps reader_length_2 reader_waits_3 reader_open_4 reader_wantsOperand_5 reader_isAsked_6 reader_steps_7 steps r_10 steps_11 hg) hy_X6_copySteps ml_X5_41 hd_X6_copySteps ⟨by omega, by omega⟩ rfl [2, 3, 5] rfl rfl 2 rfl rfl (w_Law_enact G a_this a_tape a_reader a_steps a_worked a_reader_steps a_reader_waiting 0 length_ top tape reader_length_2 reader_waits_3 reader_open_4 reader_wantsOperand_5 reader_isAsked_6 reader_steps_7 reader_waiting_8 steps_11) [none, none, some 0, some 1, none, some 2] rfl (by decide +kernel) rfl rfl (Nat.le_of_ble_eq_true rfl) dX5_enact_34 (fun hz_12 => ?_)
    refine z_put F 0 5 4 (w_Law_enact G a_this a_tape a_reader a_steps a_worked a_reader_steps a_reader_waiting 0 r_10 top tape reader_length_2 reader_waits_3 reader_open_4 reader_wantsOperand_5 reader_isAsked_6 reader_steps_7 reader_waiting_8 steps_11) inlX5 tyX5 tyX5_ok nmX5 rfl rfl (by decide) fl_X5_34 rfl rfl rfl (Nat.le_of_ble_eq_true rfl) rfl dX5_enact_37 ?_
    refine z_iload_n F 0 dX5_enact_40 rfl rfl ?_
    have eq1 := Option.some.inj hf
    obtain ⟨ee1, eq2⟩ := Prod.mk.inj eq1
    obtain ⟨ee2, eq3⟩ := Prod.mk.inj eq2
    obtain ⟨ee3, eq4⟩ := Prod.mk.inj eq3
    obtain ⟨ee4, eq5⟩ := Prod.mk.inj eq4
    obtain ⟨ee5, eq6⟩ := Prod.mk.inj eq5
    obtain ⟨ee6, eq7⟩ := Prod.mk.inj eq6
    obtain ⟨ee7, eq8⟩ := Prod.mk.inj eq7
    obtain ⟨ee8, eq9⟩ := Prod.mk.inj eq8
    obtain ⟨ee9, eq10⟩ := Prod.mk.inj eq9
    obtain ⟨ee10, ee11⟩ := Prod.mk.inj eq10
    subst ee1
    subst ee2
    subst ee3
    subst ee4
    subst ee5
    subst ee6
    subst ee7
    subst ee8
    subst ee9
    subst ee10
    subst ee11
    exact z_iret F rfl rfl rfl rfl dX5_enact_41

abbrev w_Law_bytes (G : zG) (a_this : Nat) (a_tape : Nat) (a_reader : Nat) (a_steps : Nat) (a_worked : Nat) (fed : Int32) (length_ : Int32) (top : Int32) : va_W := [(a_this, cO 5 [.ref a_tape, .int fed, .ref a_reader, .ref a_steps, .int length_, .ref a_worked, .int top])]
def f_Law_bytes (fed : Int32) : Int32 := fed
set_option maxRecDepth 100000 in
set_option maxHeartbeats 4000000 in
theorem c_Law_bytes (l : Launch) (G : zG) (a_this : Nat) (a_tape : Nat) (a_reader : Nat) (a_steps : Nat) (a_worked : Nat) (fed : Int32) (length_ : Int32) (top : Int32) (r_ : Int32) (hf : f_Law_bytes fed = r_) : zM l yX5_bytes cX5_bytes 1 (some .int) 0 0 G [.ref a_this] (w_Law_bytes G a_this a_tape a_reader a_steps a_worked fed length_ top) (some (.int r_)) (w_Law_bytes G a_this a_tape a_reader a_steps a_worked fed length_ top) := by
  refine zM.of [(0, .ref a_this)] (own := RX5) rfl (by decide +kernel) (Nat.le_of_ble_eq_true rfl) rfl rfl fun X hX F => ?_
  subst hX
  replace hf := (f_Law_bytes.eq_1 ..).symm.trans hf
  refine z_aload_n F 0 dX5_bytes_0 rfl rfl ?_
  refine z_get F 0 5 1 inlX5 rfl rfl (by decide) fl_X5_30 rfl dX5_bytes_1 ?_
  subst hf
  exact z_iret F rfl rfl rfl rfl dX5_bytes_4

