/-! by program (wip/whole/gen.py): pure functions and contracts -/
theorem dX3_isKind_0 : decode cX3_isKind 0 = .ok (.iload_n 0, 1) := by decide +kernel
theorem dX3_isKind_1 : decode cX3_isKind 1 = .ok (.ifCond .lt 13, 3) := by decide +kernel
theorem dX3_isKind_4 : decode cX3_isKind 4 = .ok (.iload_n 0, 1) := by decide +kernel
theorem dX3_isKind_5 : decode cX3_isKind 5 = .ok (.bipush 8, 2) := by decide +kernel
theorem dX3_isKind_7 : decode cX3_isKind 7 = .ok (.if_icmp .ge 7, 3) := by decide +kernel
theorem dX3_isKind_10 : decode cX3_isKind 10 = .ok (.iconst 1, 1) := by decide +kernel
theorem dX3_isKind_11 : decode cX3_isKind 11 = .ok (.goto 4, 3) := by decide +kernel
theorem dX3_isKind_14 : decode cX3_isKind 14 = .ok (.iconst 0, 1) := by decide +kernel
theorem dX3_isKind_15 : decode cX3_isKind 15 = .ok (.ireturn, 1) := by decide +kernel
theorem dX3_add_0 : decode cX3_add 0 = .ok (.iload_n 1, 1) := by decide +kernel
theorem dX3_add_1 : decode cX3_add 1 = .ok (.invokestatic 18, 3) := by decide +kernel
theorem dX3_add_4 : decode cX3_add 4 = .ok (.ifCond .ne 5, 3) := by decide +kernel
theorem dX3_add_7 : decode cX3_add 7 = .ok (.iconst (-1), 1) := by decide +kernel
theorem dX3_add_8 : decode cX3_add 8 = .ok (.ireturn, 1) := by decide +kernel
theorem dX3_add_9 : decode cX3_add 9 = .ok (.aload_n 0, 1) := by decide +kernel
theorem dX3_add_10 : decode cX3_add 10 = .ok (.getfield 25, 3) := by decide +kernel
theorem dX3_add_13 : decode cX3_add 13 = .ok (.bipush 50, 2) := by decide +kernel
theorem dX3_add_15 : decode cX3_add 15 = .ok (.if_icmp .lt 6, 3) := by decide +kernel
theorem dX3_add_18 : decode cX3_add 18 = .ok (.bipush (-3), 2) := by decide +kernel
theorem dX3_add_20 : decode cX3_add 20 = .ok (.ireturn, 1) := by decide +kernel
theorem dX3_add_21 : decode cX3_add 21 = .ok (.aload_n 0, 1) := by decide +kernel
theorem dX3_add_22 : decode cX3_add 22 = .ok (.getfield 11, 3) := by decide +kernel
theorem dX3_add_25 : decode cX3_add 25 = .ok (.aload_n 0, 1) := by decide +kernel
theorem dX3_add_26 : decode cX3_add 26 = .ok (.getfield 25, 3) := by decide +kernel
theorem dX3_add_29 : decode cX3_add 29 = .ok (.iload_n 1, 1) := by decide +kernel
theorem dX3_add_30 : decode cX3_add 30 = .ok (.iastore, 1) := by decide +kernel
theorem dX3_add_31 : decode cX3_add 31 = .ok (.aload_n 0, 1) := by decide +kernel
theorem dX3_add_32 : decode cX3_add 32 = .ok (.dup, 1) := by decide +kernel
theorem dX3_add_33 : decode cX3_add 33 = .ok (.getfield 25, 3) := by decide +kernel
theorem dX3_add_36 : decode cX3_add 36 = .ok (.iconst 1, 1) := by decide +kernel
theorem dX3_add_37 : decode cX3_add 37 = .ok (.iadd, 1) := by decide +kernel
theorem dX3_add_38 : decode cX3_add 38 = .ok (.putfield 25, 3) := by decide +kernel
theorem dX3_add_41 : decode cX3_add 41 = .ok (.aload_n 0, 1) := by decide +kernel
theorem dX3_add_42 : decode cX3_add 42 = .ok (.getfield 25, 3) := by decide +kernel
theorem dX3_add_45 : decode cX3_add 45 = .ok (.iconst 1, 1) := by decide +kernel
theorem dX3_add_46 : decode cX3_add 46 = .ok (.isub, 1) := by decide +kernel
theorem dX3_add_47 : decode cX3_add 47 = .ok (.ireturn, 1) := by decide +kernel
theorem dX3_isHead_0 : decode cX3_isHead 0 = .ok (.iload_n 1, 1) := by decide +kernel
theorem dX3_isHead_1 : decode cX3_isHead 1 = .ok (.ifCond .lt 15, 3) := by decide +kernel
theorem dX3_isHead_4 : decode cX3_isHead 4 = .ok (.iload_n 1, 1) := by decide +kernel
theorem dX3_isHead_5 : decode cX3_isHead 5 = .ok (.aload_n 0, 1) := by decide +kernel
theorem dX3_isHead_6 : decode cX3_isHead 6 = .ok (.getfield 25, 3) := by decide +kernel
theorem dX3_isHead_9 : decode cX3_isHead 9 = .ok (.if_icmp .ge 7, 3) := by decide +kernel
theorem dX3_isHead_12 : decode cX3_isHead 12 = .ok (.iconst 1, 1) := by decide +kernel
theorem dX3_isHead_13 : decode cX3_isHead 13 = .ok (.goto 4, 3) := by decide +kernel
theorem dX3_isHead_16 : decode cX3_isHead 16 = .ok (.iconst 0, 1) := by decide +kernel
theorem dX3_isHead_17 : decode cX3_isHead 17 = .ok (.ireturn, 1) := by decide +kernel
theorem dX3_own_0 : decode cX3_own 0 = .ok (.aload_n 0, 1) := by decide +kernel
theorem dX3_own_1 : decode cX3_own 1 = .ok (.aload_n 0, 1) := by decide +kernel
theorem dX3_own_2 : decode cX3_own 2 = .ok (.getfield 38, 3) := by decide +kernel
theorem dX3_own_5 : decode cX3_own 5 = .ok (.iload_n 1, 1) := by decide +kernel
theorem dX3_own_6 : decode cX3_own 6 = .ok (.iload_n 2, 1) := by decide +kernel
theorem dX3_own_7 : decode cX3_own 7 = .ok (.iload_n 3, 1) := by decide +kernel
theorem dX3_own_8 : decode cX3_own 8 = .ok (.iconst 1, 1) := by decide +kernel
theorem dX3_own_9 : decode cX3_own 9 = .ok (.iadd, 1) := by decide +kernel
theorem dX3_own_10 : decode cX3_own 10 = .ok (.invokevirtual 45, 3) := by decide +kernel
theorem dX3_own_13 : decode cX3_own 13 = .ok (.ireturn, 1) := by decide +kernel
theorem dX3_note_0 : decode cX3_note 0 = .ok (.aload_n 0, 1) := by decide +kernel
theorem dX3_note_1 : decode cX3_note 1 = .ok (.getfield 29, 3) := by decide +kernel
theorem dX3_note_4 : decode cX3_note 4 = .ok (.bipush 24, 2) := by decide +kernel
theorem dX3_note_6 : decode cX3_note 6 = .ok (.if_icmp .ge 13, 3) := by decide +kernel
theorem dX3_note_9 : decode cX3_note 9 = .ok (.aload_n 0, 1) := by decide +kernel
theorem dX3_note_10 : decode cX3_note 10 = .ok (.getfield 15, 3) := by decide +kernel
theorem dX3_note_13 : decode cX3_note 13 = .ok (.aload_n 0, 1) := by decide +kernel
theorem dX3_note_14 : decode cX3_note 14 = .ok (.getfield 29, 3) := by decide +kernel
theorem dX3_note_17 : decode cX3_note 17 = .ok (.iload_n 1, 1) := by decide +kernel
theorem dX3_note_18 : decode cX3_note 18 = .ok (.iastore, 1) := by decide +kernel
theorem dX3_note_19 : decode cX3_note 19 = .ok (.aload_n 0, 1) := by decide +kernel
theorem dX3_note_20 : decode cX3_note 20 = .ok (.dup, 1) := by decide +kernel
theorem dX3_note_21 : decode cX3_note 21 = .ok (.getfield 29, 3) := by decide +kernel
theorem dX3_note_24 : decode cX3_note 24 = .ok (.iconst 1, 1) := by decide +kernel
theorem dX3_note_25 : decode cX3_note 25 = .ok (.iadd, 1) := by decide +kernel
theorem dX3_note_26 : decode cX3_note 26 = .ok (.putfield 29, 3) := by decide +kernel
theorem dX3_note_29 : decode cX3_note 29 = .ok (.return_, 1) := by decide +kernel
theorem dX3_above_0 : decode cX3_above 0 = .ok (.iload_n 1, 1) := by decide +kernel
theorem dX3_above_1 : decode cX3_above 1 = .ok (.invokestatic 18, 3) := by decide +kernel
theorem dX3_above_4 : decode cX3_above 4 = .ok (.ifCond .eq 21, 3) := by decide +kernel
theorem dX3_above_7 : decode cX3_above 7 = .ok (.aload_n 0, 1) := by decide +kernel
theorem dX3_above_8 : decode cX3_above 8 = .ok (.getstatic 22, 3) := by decide +kernel
theorem dX3_above_11 : decode cX3_above 11 = .ok (.iload_n 1, 1) := by decide +kernel
theorem dX3_above_12 : decode cX3_above 12 = .ok (.iaload, 1) := by decide +kernel
theorem dX3_above_13 : decode cX3_above 13 = .ok (.iload_n 2, 1) := by decide +kernel
theorem dX3_above_14 : decode cX3_above 14 = .ok (.iload_n 3, 1) := by decide +kernel
theorem dX3_above_15 : decode cX3_above 15 = .ok (.iload 4, 2) := by decide +kernel
theorem dX3_above_17 : decode cX3_above 17 = .ok (.iconst 1, 1) := by decide +kernel
theorem dX3_above_18 : decode cX3_above 18 = .ok (.iadd, 1) := by decide +kernel
theorem dX3_above_19 : decode cX3_above 19 = .ok (.invokevirtual 45, 3) := by decide +kernel
theorem dX3_above_22 : decode cX3_above 22 = .ok (.goto 4, 3) := by decide +kernel
theorem dX3_above_25 : decode cX3_above 25 = .ok (.iconst 0, 1) := by decide +kernel
theorem dX3_above_26 : decode cX3_above 26 = .ok (.ireturn, 1) := by decide +kernel
theorem dX3_run_0 : decode cX3_run 0 = .ok (.aload_n 0, 1) := by decide +kernel
theorem dX3_run_1 : decode cX3_run 1 = .ok (.iload_n 1, 1) := by decide +kernel
theorem dX3_run_2 : decode cX3_run 2 = .ok (.invokevirtual 55, 3) := by decide +kernel
theorem dX3_run_5 : decode cX3_run 5 = .ok (.iload_n 1, 1) := by decide +kernel
theorem dX3_run_6 : decode cX3_run 6 = .ok (.lookupswitch 278 #[(1, 114), (2, 121), (10, 139), (11, 150), (20, 157), (30, 169), (40, 180), (41, 192), (50, 204), (60, 223), (70, 235), (80, 247), (81, 266)], 114) := by decide +kernel
theorem dX3_run_120 : decode cX3_run 120 = .ok (.iload_n 3, 1) := by decide +kernel
theorem dX3_run_121 : decode cX3_run 121 = .ok (.aload_n 0, 1) := by decide +kernel
theorem dX3_run_122 : decode cX3_run 122 = .ok (.getfield 35, 3) := by decide +kernel
theorem dX3_run_125 : decode cX3_run 125 = .ok (.iadd, 1) := by decide +kernel
theorem dX3_run_126 : decode cX3_run 126 = .ok (.ireturn, 1) := by decide +kernel
theorem dX3_run_127 : decode cX3_run 127 = .ok (.aload_n 0, 1) := by decide +kernel
theorem dX3_run_128 : decode cX3_run 128 = .ok (.iconst 1, 1) := by decide +kernel
theorem dX3_run_129 : decode cX3_run 129 = .ok (.iload_n 3, 1) := by decide +kernel
theorem dX3_run_130 : decode cX3_run 130 = .ok (.iload 4, 2) := by decide +kernel
theorem dX3_run_132 : decode cX3_run 132 = .ok (.invokevirtual 41, 3) := by decide +kernel
theorem dX3_run_135 : decode cX3_run 135 = .ok (.aload_n 0, 1) := by decide +kernel
theorem dX3_run_136 : decode cX3_run 136 = .ok (.iconst 2, 1) := by decide +kernel
theorem dX3_run_137 : decode cX3_run 137 = .ok (.iconst 1, 1) := by decide +kernel
theorem dX3_run_138 : decode cX3_run 138 = .ok (.iload 4, 2) := by decide +kernel
theorem dX3_run_140 : decode cX3_run 140 = .ok (.invokevirtual 41, 3) := by decide +kernel
theorem dX3_run_143 : decode cX3_run 143 = .ok (.isub, 1) := by decide +kernel
theorem dX3_run_144 : decode cX3_run 144 = .ok (.ireturn, 1) := by decide +kernel
theorem dX3_run_145 : decode cX3_run 145 = .ok (.aload_n 0, 1) := by decide +kernel
theorem dX3_run_146 : decode cX3_run 146 = .ok (.iconst 0, 1) := by decide +kernel
theorem dX3_run_147 : decode cX3_run 147 = .ok (.iload_n 3, 1) := by decide +kernel
theorem dX3_run_148 : decode cX3_run 148 = .ok (.iload 4, 2) := by decide +kernel
theorem dX3_run_150 : decode cX3_run 150 = .ok (.invokevirtual 41, 3) := by decide +kernel
theorem dX3_run_153 : decode cX3_run 153 = .ok (.iconst 2, 1) := by decide +kernel
theorem dX3_run_154 : decode cX3_run 154 = .ok (.imul, 1) := by decide +kernel
theorem dX3_run_155 : decode cX3_run 155 = .ok (.ireturn, 1) := by decide +kernel
theorem dX3_run_156 : decode cX3_run 156 = .ok (.iload_n 3, 1) := by decide +kernel
theorem dX3_run_157 : decode cX3_run 157 = .ok (.aload_n 0, 1) := by decide +kernel
theorem dX3_run_158 : decode cX3_run 158 = .ok (.getfield 35, 3) := by decide +kernel
theorem dX3_run_161 : decode cX3_run 161 = .ok (.ixor, 1) := by decide +kernel
theorem dX3_run_162 : decode cX3_run 162 = .ok (.ireturn, 1) := by decide +kernel
theorem dX3_run_163 : decode cX3_run 163 = .ok (.aload_n 0, 1) := by decide +kernel
theorem dX3_run_164 : decode cX3_run 164 = .ok (.iload_n 2, 1) := by decide +kernel
theorem dX3_run_165 : decode cX3_run 165 = .ok (.iconst 0, 1) := by decide +kernel
theorem dX3_run_166 : decode cX3_run 166 = .ok (.iload_n 3, 1) := by decide +kernel
theorem dX3_run_167 : decode cX3_run 167 = .ok (.iload 4, 2) := by decide +kernel
theorem dX3_run_169 : decode cX3_run 169 = .ok (.invokevirtual 59, 3) := by decide +kernel
theorem dX3_run_172 : decode cX3_run 172 = .ok (.iconst 3, 1) := by decide +kernel
theorem dX3_run_173 : decode cX3_run 173 = .ok (.iadd, 1) := by decide +kernel
theorem dX3_run_174 : decode cX3_run 174 = .ok (.ireturn, 1) := by decide +kernel
theorem dX3_run_175 : decode cX3_run 175 = .ok (.aload_n 0, 1) := by decide +kernel
theorem dX3_run_176 : decode cX3_run 176 = .ok (.iload_n 2, 1) := by decide +kernel
theorem dX3_run_177 : decode cX3_run 177 = .ok (.iconst 1, 1) := by decide +kernel
theorem dX3_run_178 : decode cX3_run 178 = .ok (.iload_n 3, 1) := by decide +kernel
theorem dX3_run_179 : decode cX3_run 179 = .ok (.iload 4, 2) := by decide +kernel
theorem dX3_run_181 : decode cX3_run 181 = .ok (.invokevirtual 59, 3) := by decide +kernel
theorem dX3_run_184 : decode cX3_run 184 = .ok (.ineg, 1) := by decide +kernel
theorem dX3_run_185 : decode cX3_run 185 = .ok (.ireturn, 1) := by decide +kernel
theorem dX3_run_186 : decode cX3_run 186 = .ok (.aload_n 0, 1) := by decide +kernel
theorem dX3_run_187 : decode cX3_run 187 = .ok (.iload_n 2, 1) := by decide +kernel
theorem dX3_run_188 : decode cX3_run 188 = .ok (.iconst 2, 1) := by decide +kernel
theorem dX3_run_189 : decode cX3_run 189 = .ok (.iload_n 3, 1) := by decide +kernel
theorem dX3_run_190 : decode cX3_run 190 = .ok (.iload 4, 2) := by decide +kernel
theorem dX3_run_192 : decode cX3_run 192 = .ok (.invokevirtual 59, 3) := by decide +kernel
theorem dX3_run_195 : decode cX3_run 195 = .ok (.iconst 3, 1) := by decide +kernel
theorem dX3_run_196 : decode cX3_run 196 = .ok (.imul, 1) := by decide +kernel
theorem dX3_run_197 : decode cX3_run 197 = .ok (.ireturn, 1) := by decide +kernel
theorem dX3_run_198 : decode cX3_run 198 = .ok (.aload_n 0, 1) := by decide +kernel
theorem dX3_run_199 : decode cX3_run 199 = .ok (.iload_n 2, 1) := by decide +kernel
theorem dX3_run_200 : decode cX3_run 200 = .ok (.iconst 1, 1) := by decide +kernel
theorem dX3_run_201 : decode cX3_run 201 = .ok (.iload_n 3, 1) := by decide +kernel
theorem dX3_run_202 : decode cX3_run 202 = .ok (.iconst 1, 1) := by decide +kernel
theorem dX3_run_203 : decode cX3_run 203 = .ok (.iadd, 1) := by decide +kernel
theorem dX3_run_204 : decode cX3_run 204 = .ok (.iload 4, 2) := by decide +kernel
theorem dX3_run_206 : decode cX3_run 206 = .ok (.invokevirtual 59, 3) := by decide +kernel
theorem dX3_run_209 : decode cX3_run 209 = .ok (.ireturn, 1) := by decide +kernel
theorem dX3_run_210 : decode cX3_run 210 = .ok (.aload_n 0, 1) := by decide +kernel
theorem dX3_run_211 : decode cX3_run 211 = .ok (.iload_n 2, 1) := by decide +kernel
theorem dX3_run_212 : decode cX3_run 212 = .ok (.iconst 2, 1) := by decide +kernel
theorem dX3_run_213 : decode cX3_run 213 = .ok (.iload_n 3, 1) := by decide +kernel
theorem dX3_run_214 : decode cX3_run 214 = .ok (.iload 4, 2) := by decide +kernel
theorem dX3_run_216 : decode cX3_run 216 = .ok (.invokevirtual 59, 3) := by decide +kernel
theorem dX3_run_219 : decode cX3_run 219 = .ok (.aload_n 0, 1) := by decide +kernel
theorem dX3_run_220 : decode cX3_run 220 = .ok (.iconst 0, 1) := by decide +kernel
theorem dX3_run_221 : decode cX3_run 221 = .ok (.iconst 2, 1) := by decide +kernel
theorem dX3_run_222 : decode cX3_run 222 = .ok (.iload 4, 2) := by decide +kernel
theorem dX3_run_224 : decode cX3_run 224 = .ok (.invokevirtual 41, 3) := by decide +kernel
theorem dX3_run_227 : decode cX3_run 227 = .ok (.isub, 1) := by decide +kernel
theorem dX3_run_228 : decode cX3_run 228 = .ok (.ireturn, 1) := by decide +kernel
theorem dX3_run_229 : decode cX3_run 229 = .ok (.aload_n 0, 1) := by decide +kernel
theorem dX3_run_230 : decode cX3_run 230 = .ok (.iload_n 2, 1) := by decide +kernel
theorem dX3_run_231 : decode cX3_run 231 = .ok (.iconst 3, 1) := by decide +kernel
theorem dX3_run_232 : decode cX3_run 232 = .ok (.iload_n 3, 1) := by decide +kernel
theorem dX3_run_233 : decode cX3_run 233 = .ok (.iload 4, 2) := by decide +kernel
theorem dX3_run_235 : decode cX3_run 235 = .ok (.invokevirtual 59, 3) := by decide +kernel
theorem dX3_run_238 : decode cX3_run 238 = .ok (.iconst 5, 1) := by decide +kernel
theorem dX3_run_239 : decode cX3_run 239 = .ok (.ixor, 1) := by decide +kernel
theorem dX3_run_240 : decode cX3_run 240 = .ok (.ireturn, 1) := by decide +kernel
theorem dX3_run_241 : decode cX3_run 241 = .ok (.aload_n 0, 1) := by decide +kernel
theorem dX3_run_242 : decode cX3_run 242 = .ok (.iload_n 2, 1) := by decide +kernel
theorem dX3_run_243 : decode cX3_run 243 = .ok (.iconst 0, 1) := by decide +kernel
theorem dX3_run_244 : decode cX3_run 244 = .ok (.iload_n 3, 1) := by decide +kernel
theorem dX3_run_245 : decode cX3_run 245 = .ok (.iload 4, 2) := by decide +kernel
theorem dX3_run_247 : decode cX3_run 247 = .ok (.invokevirtual 59, 3) := by decide +kernel
theorem dX3_run_250 : decode cX3_run 250 = .ok (.iconst 2, 1) := by decide +kernel
theorem dX3_run_251 : decode cX3_run 251 = .ok (.imul, 1) := by decide +kernel
theorem dX3_run_252 : decode cX3_run 252 = .ok (.ireturn, 1) := by decide +kernel
theorem dX3_run_253 : decode cX3_run 253 = .ok (.aload_n 0, 1) := by decide +kernel
theorem dX3_run_254 : decode cX3_run 254 = .ok (.iload_n 2, 1) := by decide +kernel
theorem dX3_run_255 : decode cX3_run 255 = .ok (.iconst 1, 1) := by decide +kernel
theorem dX3_run_256 : decode cX3_run 256 = .ok (.iload_n 3, 1) := by decide +kernel
theorem dX3_run_257 : decode cX3_run 257 = .ok (.iload 4, 2) := by decide +kernel
theorem dX3_run_259 : decode cX3_run 259 = .ok (.invokevirtual 59, 3) := by decide +kernel
theorem dX3_run_262 : decode cX3_run 262 = .ok (.aload_n 0, 1) := by decide +kernel
theorem dX3_run_263 : decode cX3_run 263 = .ok (.iconst 2, 1) := by decide +kernel
theorem dX3_run_264 : decode cX3_run 264 = .ok (.iconst 2, 1) := by decide +kernel
theorem dX3_run_265 : decode cX3_run 265 = .ok (.iload 4, 2) := by decide +kernel
theorem dX3_run_267 : decode cX3_run 267 = .ok (.invokevirtual 41, 3) := by decide +kernel
theorem dX3_run_270 : decode cX3_run 270 = .ok (.iadd, 1) := by decide +kernel
theorem dX3_run_271 : decode cX3_run 271 = .ok (.ireturn, 1) := by decide +kernel
theorem dX3_run_272 : decode cX3_run 272 = .ok (.aload_n 0, 1) := by decide +kernel
theorem dX3_run_273 : decode cX3_run 273 = .ok (.iload_n 2, 1) := by decide +kernel
theorem dX3_run_274 : decode cX3_run 274 = .ok (.iconst 3, 1) := by decide +kernel
theorem dX3_run_275 : decode cX3_run 275 = .ok (.iload_n 3, 1) := by decide +kernel
theorem dX3_run_276 : decode cX3_run 276 = .ok (.iload 4, 2) := by decide +kernel
theorem dX3_run_278 : decode cX3_run 278 = .ok (.invokevirtual 59, 3) := by decide +kernel
theorem dX3_run_281 : decode cX3_run 281 = .ok (.iconst 1, 1) := by decide +kernel
theorem dX3_run_282 : decode cX3_run 282 = .ok (.isub, 1) := by decide +kernel
theorem dX3_run_283 : decode cX3_run 283 = .ok (.ireturn, 1) := by decide +kernel
theorem dX3_run_284 : decode cX3_run 284 = .ok (.iconst 0, 1) := by decide +kernel
theorem dX3_run_285 : decode cX3_run 285 = .ok (.ireturn, 1) := by decide +kernel
theorem dX3_from_0 : decode cX3_from 0 = .ok (.iload_n 1, 1) := by decide +kernel
theorem dX3_from_1 : decode cX3_from 1 = .ok (.istore 5, 2) := by decide +kernel
theorem dX3_from_3 : decode cX3_from 3 = .ok (.iconst 0, 1) := by decide +kernel
theorem dX3_from_4 : decode cX3_from 4 = .ok (.istore 6, 2) := by decide +kernel
theorem dX3_from_6 : decode cX3_from 6 = .ok (.iload 6, 2) := by decide +kernel
theorem dX3_from_8 : decode cX3_from 8 = .ok (.bipush 8, 2) := by decide +kernel
theorem dX3_from_10 : decode cX3_from 10 = .ok (.if_icmp .ge 65, 3) := by decide +kernel
theorem dX3_from_13 : decode cX3_from 13 = .ok (.iload 5, 2) := by decide +kernel
theorem dX3_from_15 : decode cX3_from 15 = .ok (.invokestatic 18, 3) := by decide +kernel
theorem dX3_from_18 : decode cX3_from 18 = .ok (.ifCond .eq 57, 3) := by decide +kernel
theorem dX3_from_21 : decode cX3_from 21 = .ok (.getstatic 49, 3) := by decide +kernel
theorem dX3_from_24 : decode cX3_from 24 = .ok (.iload 5, 2) := by decide +kernel
theorem dX3_from_26 : decode cX3_from 26 = .ok (.iconst 4, 1) := by decide +kernel
theorem dX3_from_27 : decode cX3_from 27 = .ok (.imul, 1) := by decide +kernel
theorem dX3_from_28 : decode cX3_from 28 = .ok (.iload_n 2, 1) := by decide +kernel
theorem dX3_from_29 : decode cX3_from 29 = .ok (.iadd, 1) := by decide +kernel
theorem dX3_from_30 : decode cX3_from 30 = .ok (.iaload, 1) := by decide +kernel
theorem dX3_from_31 : decode cX3_from 31 = .ok (.istore 7, 2) := by decide +kernel
theorem dX3_from_33 : decode cX3_from 33 = .ok (.iload 7, 2) := by decide +kernel
theorem dX3_from_35 : decode cX3_from 35 = .ok (.ifCond .eq 26, 3) := by decide +kernel
theorem dX3_from_38 : decode cX3_from 38 = .ok (.iload 4, 2) := by decide +kernel
theorem dX3_from_40 : decode cX3_from 40 = .ok (.bipush 30, 2) := by decide +kernel
theorem dX3_from_42 : decode cX3_from 42 = .ok (.if_icmp .le 7, 3) := by decide +kernel
theorem dX3_from_45 : decode cX3_from 45 = .ok (.iconst 0, 1) := by decide +kernel
theorem dX3_from_46 : decode cX3_from 46 = .ok (.goto 14, 3) := by decide +kernel
theorem dX3_from_49 : decode cX3_from 49 = .ok (.aload_n 0, 1) := by decide +kernel
theorem dX3_from_50 : decode cX3_from 50 = .ok (.iload 7, 2) := by decide +kernel
theorem dX3_from_52 : decode cX3_from 52 = .ok (.iload 5, 2) := by decide +kernel
theorem dX3_from_54 : decode cX3_from 54 = .ok (.iload_n 3, 1) := by decide +kernel
theorem dX3_from_55 : decode cX3_from 55 = .ok (.iload 4, 2) := by decide +kernel
theorem dX3_from_57 : decode cX3_from 57 = .ok (.invokevirtual 52, 3) := by decide +kernel
theorem dX3_from_60 : decode cX3_from 60 = .ok (.ireturn, 1) := by decide +kernel
theorem dX3_from_61 : decode cX3_from 61 = .ok (.getstatic 22, 3) := by decide +kernel
theorem dX3_from_64 : decode cX3_from 64 = .ok (.iload 5, 2) := by decide +kernel
theorem dX3_from_66 : decode cX3_from 66 = .ok (.iaload, 1) := by decide +kernel
theorem dX3_from_67 : decode cX3_from 67 = .ok (.istore 5, 2) := by decide +kernel
theorem dX3_from_69 : decode cX3_from 69 = .ok (.iinc 6 1, 3) := by decide +kernel
theorem dX3_from_72 : decode cX3_from 72 = .ok (.goto (-66), 3) := by decide +kernel
theorem dX3_from_75 : decode cX3_from 75 = .ok (.iconst 0, 1) := by decide +kernel
theorem dX3_from_76 : decode cX3_from 76 = .ok (.ireturn, 1) := by decide +kernel
theorem dX3_perform_0 : decode cX3_perform 0 = .ok (.aload_n 0, 1) := by decide +kernel
theorem dX3_perform_1 : decode cX3_perform 1 = .ok (.iconst 0, 1) := by decide +kernel
theorem dX3_perform_2 : decode cX3_perform 2 = .ok (.putfield 29, 3) := by decide +kernel
theorem dX3_perform_5 : decode cX3_perform 5 = .ok (.aload_n 0, 1) := by decide +kernel
theorem dX3_perform_6 : decode cX3_perform 6 = .ok (.iload_n 1, 1) := by decide +kernel
theorem dX3_perform_7 : decode cX3_perform 7 = .ok (.invokevirtual 32, 3) := by decide +kernel
theorem dX3_perform_10 : decode cX3_perform 10 = .ok (.ifCond .eq 12, 3) := by decide +kernel
theorem dX3_perform_13 : decode cX3_perform 13 = .ok (.iload_n 2, 1) := by decide +kernel
theorem dX3_perform_14 : decode cX3_perform 14 = .ok (.ifCond .lt 8, 3) := by decide +kernel
theorem dX3_perform_17 : decode cX3_perform 17 = .ok (.iload_n 2, 1) := by decide +kernel
theorem dX3_perform_18 : decode cX3_perform 18 = .ok (.iconst 4, 1) := by decide +kernel
theorem dX3_perform_19 : decode cX3_perform 19 = .ok (.if_icmp .lt 5, 3) := by decide +kernel
theorem dX3_perform_22 : decode cX3_perform 22 = .ok (.iconst 0, 1) := by decide +kernel
theorem dX3_perform_23 : decode cX3_perform 23 = .ok (.ireturn, 1) := by decide +kernel
theorem dX3_perform_24 : decode cX3_perform 24 = .ok (.aload_n 0, 1) := by decide +kernel
theorem dX3_perform_25 : decode cX3_perform 25 = .ok (.iload_n 1, 1) := by decide +kernel
theorem dX3_perform_26 : decode cX3_perform 26 = .ok (.putfield 35, 3) := by decide +kernel
theorem dX3_perform_29 : decode cX3_perform 29 = .ok (.aload_n 0, 1) := by decide +kernel
theorem dX3_perform_30 : decode cX3_perform 30 = .ok (.aload_n 0, 1) := by decide +kernel
theorem dX3_perform_31 : decode cX3_perform 31 = .ok (.getfield 11, 3) := by decide +kernel
theorem dX3_perform_34 : decode cX3_perform 34 = .ok (.iload_n 1, 1) := by decide +kernel
theorem dX3_perform_35 : decode cX3_perform 35 = .ok (.iaload, 1) := by decide +kernel
theorem dX3_perform_36 : decode cX3_perform 36 = .ok (.putfield 38, 3) := by decide +kernel
theorem dX3_perform_39 : decode cX3_perform 39 = .ok (.aload_n 0, 1) := by decide +kernel
theorem dX3_perform_40 : decode cX3_perform 40 = .ok (.iload_n 2, 1) := by decide +kernel
theorem dX3_perform_41 : decode cX3_perform 41 = .ok (.iload_n 3, 1) := by decide +kernel
theorem dX3_perform_42 : decode cX3_perform 42 = .ok (.iconst 0, 1) := by decide +kernel
theorem dX3_perform_43 : decode cX3_perform 43 = .ok (.invokevirtual 41, 3) := by decide +kernel
theorem dX3_perform_46 : decode cX3_perform 46 = .ok (.ireturn, 1) := by decide +kernel
theorem dX3_traced_0 : decode cX3_traced 0 = .ok (.iload_n 1, 1) := by decide +kernel
theorem dX3_traced_1 : decode cX3_traced 1 = .ok (.ifCond .lt 26, 3) := by decide +kernel
theorem dX3_traced_4 : decode cX3_traced 4 = .ok (.iload_n 1, 1) := by decide +kernel
theorem dX3_traced_5 : decode cX3_traced 5 = .ok (.aload_n 0, 1) := by decide +kernel
theorem dX3_traced_6 : decode cX3_traced 6 = .ok (.getfield 29, 3) := by decide +kernel
theorem dX3_traced_9 : decode cX3_traced 9 = .ok (.if_icmp .ge 18, 3) := by decide +kernel
theorem dX3_traced_12 : decode cX3_traced 12 = .ok (.iload_n 1, 1) := by decide +kernel
theorem dX3_traced_13 : decode cX3_traced 13 = .ok (.bipush 24, 2) := by decide +kernel
theorem dX3_traced_15 : decode cX3_traced 15 = .ok (.if_icmp .ge 12, 3) := by decide +kernel
theorem dX3_traced_18 : decode cX3_traced 18 = .ok (.aload_n 0, 1) := by decide +kernel
theorem dX3_traced_19 : decode cX3_traced 19 = .ok (.getfield 15, 3) := by decide +kernel
theorem dX3_traced_22 : decode cX3_traced 22 = .ok (.iload_n 1, 1) := by decide +kernel
theorem dX3_traced_23 : decode cX3_traced 23 = .ok (.iaload, 1) := by decide +kernel
theorem dX3_traced_24 : decode cX3_traced 24 = .ok (.goto 4, 3) := by decide +kernel
theorem dX3_traced_27 : decode cX3_traced 27 = .ok (.iconst (-1), 1) := by decide +kernel
theorem dX3_traced_28 : decode cX3_traced 28 = .ok (.ireturn, 1) := by decide +kernel
theorem dX3_kindOf_0 : decode cX3_kindOf 0 = .ok (.aload_n 0, 1) := by decide +kernel
theorem dX3_kindOf_1 : decode cX3_kindOf 1 = .ok (.iload_n 1, 1) := by decide +kernel
theorem dX3_kindOf_2 : decode cX3_kindOf 2 = .ok (.invokevirtual 32, 3) := by decide +kernel
theorem dX3_kindOf_5 : decode cX3_kindOf 5 = .ok (.ifCond .eq 12, 3) := by decide +kernel
theorem dX3_kindOf_8 : decode cX3_kindOf 8 = .ok (.aload_n 0, 1) := by decide +kernel
theorem dX3_kindOf_9 : decode cX3_kindOf 9 = .ok (.getfield 11, 3) := by decide +kernel
theorem dX3_kindOf_12 : decode cX3_kindOf 12 = .ok (.iload_n 1, 1) := by decide +kernel
theorem dX3_kindOf_13 : decode cX3_kindOf 13 = .ok (.iaload, 1) := by decide +kernel
theorem dX3_kindOf_14 : decode cX3_kindOf 14 = .ok (.goto 5, 3) := by decide +kernel
theorem dX3_kindOf_17 : decode cX3_kindOf 17 = .ok (.bipush (-2), 2) := by decide +kernel
theorem dX3_kindOf_19 : decode cX3_kindOf 19 = .ok (.ireturn, 1) := by decide +kernel
theorem dX3_isUnder_0 : decode cX3_isUnder 0 = .ok (.iload_n 0, 1) := by decide +kernel
theorem dX3_isUnder_1 : decode cX3_isUnder 1 = .ok (.istore_n 2, 1) := by decide +kernel
theorem dX3_isUnder_2 : decode cX3_isUnder 2 = .ok (.iconst 0, 1) := by decide +kernel
theorem dX3_isUnder_3 : decode cX3_isUnder 3 = .ok (.istore_n 3, 1) := by decide +kernel
theorem dX3_isUnder_4 : decode cX3_isUnder 4 = .ok (.iload_n 3, 1) := by decide +kernel
theorem dX3_isUnder_5 : decode cX3_isUnder 5 = .ok (.bipush 8, 2) := by decide +kernel
theorem dX3_isUnder_7 : decode cX3_isUnder 7 = .ok (.if_icmp .ge 29, 3) := by decide +kernel
theorem dX3_isUnder_10 : decode cX3_isUnder 10 = .ok (.iload_n 2, 1) := by decide +kernel
theorem dX3_isUnder_11 : decode cX3_isUnder 11 = .ok (.invokestatic 18, 3) := by decide +kernel
theorem dX3_isUnder_14 : decode cX3_isUnder 14 = .ok (.ifCond .eq 22, 3) := by decide +kernel
theorem dX3_isUnder_17 : decode cX3_isUnder 17 = .ok (.iload_n 2, 1) := by decide +kernel
theorem dX3_isUnder_18 : decode cX3_isUnder 18 = .ok (.iload_n 1, 1) := by decide +kernel
theorem dX3_isUnder_19 : decode cX3_isUnder 19 = .ok (.if_icmp .ne 5, 3) := by decide +kernel
theorem dX3_isUnder_22 : decode cX3_isUnder 22 = .ok (.iconst 1, 1) := by decide +kernel
theorem dX3_isUnder_23 : decode cX3_isUnder 23 = .ok (.ireturn, 1) := by decide +kernel
theorem dX3_isUnder_24 : decode cX3_isUnder 24 = .ok (.getstatic 22, 3) := by decide +kernel
theorem dX3_isUnder_27 : decode cX3_isUnder 27 = .ok (.iload_n 2, 1) := by decide +kernel
theorem dX3_isUnder_28 : decode cX3_isUnder 28 = .ok (.iaload, 1) := by decide +kernel
theorem dX3_isUnder_29 : decode cX3_isUnder 29 = .ok (.istore_n 2, 1) := by decide +kernel
theorem dX3_isUnder_30 : decode cX3_isUnder 30 = .ok (.iinc 3 1, 3) := by decide +kernel
theorem dX3_isUnder_33 : decode cX3_isUnder 33 = .ok (.goto (-29), 3) := by decide +kernel
theorem dX3_isUnder_36 : decode cX3_isUnder 36 = .ok (.iconst 0, 1) := by decide +kernel
theorem dX3_isUnder_37 : decode cX3_isUnder 37 = .ok (.ireturn, 1) := by decide +kernel
theorem dX3_size_0 : decode cX3_size 0 = .ok (.aload_n 0, 1) := by decide +kernel
theorem dX3_size_1 : decode cX3_size 1 = .ok (.getfield 25, 3) := by decide +kernel
theorem dX3_size_4 : decode cX3_size 4 = .ok (.ireturn, 1) := by decide +kernel
theorem dX3_ran_0 : decode cX3_ran 0 = .ok (.aload_n 0, 1) := by decide +kernel
theorem dX3_ran_1 : decode cX3_ran 1 = .ok (.getfield 29, 3) := by decide +kernel
theorem dX3_ran_4 : decode cX3_ran 4 = .ok (.ireturn, 1) := by decide +kernel
theorem fl_X3_11 : Cond.fieldLink RX3 11 (TX3 0).1 (TX3 0).2.1 (TX3 0).2.2.1 ∈ wsL_law := (uw7 _ (List.mem_of_getElem? (i := 16) rfl))
theorem fl_X3_15 : Cond.fieldLink RX3 15 (TX3 2).1 (TX3 2).2.1 (TX3 2).2.2.1 ∈ wsL_law := (uw7 _ (List.mem_of_getElem? (i := 17) rfl))
theorem fl_X3_25 : Cond.fieldLink RX3 25 (TX3 1).1 (TX3 1).2.1 (TX3 1).2.2.1 ∈ wsL_law := (uw50 _ (List.mem_of_getElem? (i := 10) rfl))
theorem fl_X3_29 : Cond.fieldLink RX3 29 (TX3 3).1 (TX3 3).2.1 (TX3 3).2.2.1 ∈ wsL_law := (uw51 _ (List.mem_of_getElem? (i := 4) rfl))
theorem fl_X3_35 : Cond.fieldLink RX3 35 (TX3 4).1 (TX3 4).2.1 (TX3 4).2.2.1 ∈ wsL_law := (uw51 _ (List.mem_of_getElem? (i := 5) rfl))
theorem fl_X3_38 : Cond.fieldLink RX3 38 (TX3 5).1 (TX3 5).2.1 (TX3 5).2.2.1 ∈ wsL_law := (uw51 _ (List.mem_of_getElem? (i := 6) rfl))
theorem hy_X3_above : Cond.code yX3_above cX3_above 5 (some .int) ∈ wsL_law ∧ Cond.initialized yX3_above.cls ∈ wsL_law ∧ Cond.instanceMethod yX3_above ∈ wsL_law ∧ Cond.selects yX3_above.cls yX3_above yX3_above ∈ wsL_law := ⟨(uw51 _ (List.mem_of_getElem? (i := 18) rfl)), (uw3 _ (List.mem_of_getElem? (i := 4) rfl)), (uw52 _ (List.mem_of_getElem? (i := 7) rfl)), (uw52 _ (List.mem_of_getElem? (i := 8) rfl))⟩
theorem hd_X3_above : yX3_above.cls ≠ "java/lang/invoke/MethodHandle" ∧ yX3_above.cls ≠ "java/lang/invoke/VarHandle" ∧ (parseMethodDescriptor yX3_above.desc).map (fun d => d.parameters.length) = some 4 := ⟨by decide +kernel, by decide +kernel, by decide +kernel⟩
theorem hy_X3_from : Cond.code yX3_from cX3_from 8 (some .int) ∈ wsL_law ∧ Cond.initialized yX3_from.cls ∈ wsL_law ∧ Cond.instanceMethod yX3_from ∈ wsL_law ∧ Cond.selects yX3_from.cls yX3_from yX3_from ∈ wsL_law := ⟨(uw51 _ (List.mem_of_getElem? (i := 20) rfl)), (uw3 _ (List.mem_of_getElem? (i := 4) rfl)), (uw51 _ (List.mem_of_getElem? (i := 16) rfl)), (uw51 _ (List.mem_of_getElem? (i := 17) rfl))⟩
theorem hd_X3_from : yX3_from.cls ≠ "java/lang/invoke/MethodHandle" ∧ yX3_from.cls ≠ "java/lang/invoke/VarHandle" ∧ (parseMethodDescriptor yX3_from.desc).map (fun d => d.parameters.length) = some 4 := ⟨by decide +kernel, by decide +kernel, by decide +kernel⟩
theorem hy_X3_isHead : Cond.code yX3_isHead cX3_isHead 2 (some .boolean) ∈ wsL_law ∧ Cond.initialized yX3_isHead.cls ∈ wsL_law ∧ Cond.instanceMethod yX3_isHead ∈ wsL_law ∧ Cond.selects yX3_isHead.cls yX3_isHead yX3_isHead ∈ wsL_law := ⟨(uw51 _ (List.mem_of_getElem? (i := 10) rfl)), (uw3 _ (List.mem_of_getElem? (i := 4) rfl)), (uw51 _ (List.mem_of_getElem? (i := 8) rfl)), (uw51 _ (List.mem_of_getElem? (i := 9) rfl))⟩
theorem hd_X3_isHead : yX3_isHead.cls ≠ "java/lang/invoke/MethodHandle" ∧ yX3_isHead.cls ≠ "java/lang/invoke/VarHandle" ∧ (parseMethodDescriptor yX3_isHead.desc).map (fun d => d.parameters.length) = some 1 := ⟨by decide +kernel, by decide +kernel, by decide +kernel⟩
theorem hy_X3_isKind : Cond.code yX3_isKind cX3_isKind 1 (some .boolean) ∈ wsL_law ∧ Cond.initialized yX3_isKind.cls ∈ wsL_law ∧ Cond.static yX3_isKind ∈ wsL_law := ⟨(uw50 _ (List.mem_of_getElem? (i := 13) rfl)), (uw3 _ (List.mem_of_getElem? (i := 4) rfl)), (uw50 _ (List.mem_of_getElem? (i := 12) rfl))⟩
theorem hd_X3_isKind : yX3_isKind.cls ≠ "java/lang/invoke/MethodHandle" ∧ yX3_isKind.cls ≠ "java/lang/invoke/VarHandle" ∧ (parseMethodDescriptor yX3_isKind.desc).map (fun d => d.parameters.length) = some 1 := ⟨by decide +kernel, by decide +kernel, by decide +kernel⟩
theorem hy_X3_note : Cond.code yX3_note cX3_note 2 none ∈ wsL_law ∧ Cond.initialized yX3_note.cls ∈ wsL_law ∧ Cond.instanceMethod yX3_note ∈ wsL_law ∧ Cond.selects yX3_note.cls yX3_note yX3_note ∈ wsL_law := ⟨(uw52 _ (List.mem_of_getElem? (i := 5) rfl)), (uw3 _ (List.mem_of_getElem? (i := 4) rfl)), (uw52 _ (List.mem_of_getElem? (i := 3) rfl)), (uw52 _ (List.mem_of_getElem? (i := 4) rfl))⟩
theorem hd_X3_note : yX3_note.cls ≠ "java/lang/invoke/MethodHandle" ∧ yX3_note.cls ≠ "java/lang/invoke/VarHandle" ∧ (parseMethodDescriptor yX3_note.desc).map (fun d => d.parameters.length) = some 1 := ⟨by decide +kernel, by decide +kernel, by decide +kernel⟩
theorem hy_X3_own : Cond.code yX3_own cX3_own 4 (some .int) ∈ wsL_law ∧ Cond.initialized yX3_own.cls ∈ wsL_law ∧ Cond.instanceMethod yX3_own ∈ wsL_law ∧ Cond.selects yX3_own.cls yX3_own yX3_own ∈ wsL_law := ⟨(uw51 _ (List.mem_of_getElem? (i := 14) rfl)), (uw3 _ (List.mem_of_getElem? (i := 4) rfl)), (uw51 _ (List.mem_of_getElem? (i := 12) rfl)), (uw51 _ (List.mem_of_getElem? (i := 13) rfl))⟩
theorem hd_X3_own : yX3_own.cls ≠ "java/lang/invoke/MethodHandle" ∧ yX3_own.cls ≠ "java/lang/invoke/VarHandle" ∧ (parseMethodDescriptor yX3_own.desc).map (fun d => d.parameters.length) = some 3 := ⟨by decide +kernel, by decide +kernel, by decide +kernel⟩
theorem hy_X3_run : Cond.code yX3_run cX3_run 5 (some .int) ∈ wsL_law ∧ Cond.initialized yX3_run.cls ∈ wsL_law ∧ Cond.instanceMethod yX3_run ∈ wsL_law ∧ Cond.selects yX3_run.cls yX3_run yX3_run ∈ wsL_law := ⟨(uw52 _ (List.mem_of_getElem? (i := 1) rfl)), (uw3 _ (List.mem_of_getElem? (i := 4) rfl)), (uw51 _ (List.mem_of_getElem? (i := 23) rfl)), (uw52 _ (List.mem_of_getElem? (i := 0) rfl))⟩
theorem hd_X3_run : yX3_run.cls ≠ "java/lang/invoke/MethodHandle" ∧ yX3_run.cls ≠ "java/lang/invoke/VarHandle" ∧ (parseMethodDescriptor yX3_run.desc).map (fun d => d.parameters.length) = some 4 := ⟨by decide +kernel, by decide +kernel, by decide +kernel⟩
theorem ml_X3_18 : Cond.methodLink RX3 18 yX3_isKind ∈ wsL_law := (uw50 _ (List.mem_of_getElem? (i := 11) rfl))
theorem ml_X3_32 : Cond.methodLink RX3 32 yX3_isHead ∈ wsL_law := (uw51 _ (List.mem_of_getElem? (i := 7) rfl))
theorem ml_X3_41 : Cond.methodLink RX3 41 yX3_own ∈ wsL_law := (uw51 _ (List.mem_of_getElem? (i := 11) rfl))
theorem ml_X3_45 : Cond.methodLink RX3 45 yX3_from ∈ wsL_law := (uw51 _ (List.mem_of_getElem? (i := 15) rfl))
theorem ml_X3_52 : Cond.methodLink RX3 52 yX3_run ∈ wsL_law := (uw51 _ (List.mem_of_getElem? (i := 22) rfl))
theorem ml_X3_55 : Cond.methodLink RX3 55 yX3_note ∈ wsL_law := (uw52 _ (List.mem_of_getElem? (i := 2) rfl))
theorem ml_X3_59 : Cond.methodLink RX3 59 yX3_above ∈ wsL_law := (uw52 _ (List.mem_of_getElem? (i := 6) rfl))
abbrev w_Heads_isKind (G : zG) : va_W := []
def f_Heads_isKind (x0 : Int32) : Int32 := (if x0 < 0 then 0 else (if (8 : Int32) ≤ x0 then 0 else 1))
set_option maxRecDepth 100000 in
set_option maxHeartbeats 4000000 in
theorem c_Heads_isKind (l : Launch) (G : zG) (x0 : Int32) (r_ : Int32) (hf : f_Heads_isKind x0 = r_) : zM l yX3_isKind cX3_isKind 1 (some .boolean) 0 0 G [.int x0] (w_Heads_isKind G) (some (.int r_)) (w_Heads_isKind G) := by
  refine zM.of [(0, .int x0)] (own := RX3) rfl (by decide +kernel) (Nat.le_of_ble_eq_true rfl) rfl rfl fun X hX F => ?_
  subst hX
  replace hf := (f_Heads_isKind.eq_1 ..).symm.trans hf
  refine z_iload_n F 0 dX3_isKind_0 rfl rfl ?_
  refine z_if_lt F 14 dX3_isKind_1 (by decide) hf (fun hf _ => ?_) (fun hf _ => ?_)
  · refine z_iconst F (0) dX3_isKind_14 rfl ?_
    subst hf
    exact z_iret F rfl rfl rfl rfl dX3_isKind_15
  · refine z_iload_n F 0 dX3_isKind_4 rfl rfl ?_
    refine z_bipush F (8) dX3_isKind_5 rfl ?_
    refine z_icmp_ge F 14 dX3_isKind_7 (by decide) hf (fun hf _ => ?_) (fun hf _ => ?_)
    · refine z_iconst F (0) dX3_isKind_14 rfl ?_
      subst hf
      exact z_iret F rfl rfl rfl rfl dX3_isKind_15
    · refine z_iconst F (1) dX3_isKind_10 rfl ?_
      refine z_goto F 15 dX3_isKind_11 (by decide) ?_
      subst hf
      exact z_iret F rfl rfl rfl rfl dX3_isKind_15

abbrev w_Heads_add (G : zG) (a_this : Nat) (a_kinds : Nat) (a_trace : Nat) (size : Int32) (ran : Int32) (number : Int32) (ownKind : Int32) (kinds : Nat → Int32) : va_W := [(a_this, cO 3 [.ref a_kinds, .int size, .ref a_trace, .int ran, .int number, .int ownKind]), (a_kinds, cI G 50 kinds)]
def f_Heads_add (size : Int32) (kinds : Nat → Int32) (x1 : Int32) : Option (Int32 × Int32 × (Nat → Int32)) := (if (f_Heads_isKind x1) = 0 then (some ((-1), size, kinds)) else (if size < 50 then (zs kinds 50 size x1 fun kinds_2 => (some (((size + (1 : Int32)) - (1 : Int32)), (size + (1 : Int32)), kinds_2))) else (some ((-3), size, kinds))))
set_option maxRecDepth 100000 in
set_option maxHeartbeats 4000000 in
theorem c_Heads_add (l : Launch) (G : zG) (a_this : Nat) (a_kinds : Nat) (a_trace : Nat) (size : Int32) (ran : Int32) (number : Int32) (ownKind : Int32) (kinds : Nat → Int32) (x1 : Int32) (r_ : Int32) (o_size : Int32) (o_kinds : Nat → Int32) (hf : f_Heads_add size kinds x1 = some (r_, o_size, o_kinds)) : zM l yX3_add cX3_add 2 (some .int) 1 20 G [.ref a_this, .int x1] (w_Heads_add G a_this a_kinds a_trace size ran number ownKind kinds) (some (.int r_)) (w_Heads_add G a_this a_kinds a_trace o_size ran number ownKind o_kinds) := by
  refine zM.of [(0, .ref a_this), (1, .int x1)] (own := RX3) rfl (by decide +kernel) (Nat.le_of_ble_eq_true rfl) rfl rfl fun X hX F => ?_
  subst hX
  replace hf := (f_Heads_add.eq_1 ..).symm.trans hf
  refine z_iload_n F 1 dX3_add_0 rfl rfl ?_
  refine z_callSm (rest := []) F (c_Heads_isKind (xL X) G x1 _ rfl) hy_X3_isKind ml_X3_18 hd_X3_isKind ⟨by omega, by omega⟩ rfl [] rfl rfl (w_Heads_add G a_this a_kinds a_trace size ran number ownKind kinds) [none, none] rfl (by decide +kernel) rfl rfl (Nat.le_of_ble_eq_true rfl) dX3_add_1 (fun hz_1 => ?_)
  refine z_if_ne F 9 dX3_add_4 (by decide) hf (fun hf _ => ?_) (fun hf _ => ?_)
  · refine z_aload_n F 0 dX3_add_9 rfl rfl ?_
    refine z_get F 0 3 1 inlX3 rfl rfl (by decide) fl_X3_25 rfl dX3_add_10 ?_
    refine z_bipush F (50) dX3_add_13 rfl ?_
    refine z_icmp_lt F 21 dX3_add_15 (by decide) hf (fun hf _ => ?_) (fun hf _ => ?_)
    · refine z_aload_n F 0 dX3_add_21 rfl rfl ?_
      refine z_get F 0 3 0 inlX3 rfl rfl (by decide) fl_X3_11 rfl dX3_add_22 ?_
      refine z_aload_n F 0 dX3_add_25 rfl rfl ?_
      refine z_get F 0 3 1 inlX3 rfl rfl (by decide) fl_X3_25 rfl dX3_add_26 ?_
      refine z_iload_n F 1 dX3_add_29 rfl rfl ?_
      refine z_iast F 1 (fun kinds_2 => (w_Heads_add G a_this a_kinds a_trace size ran number ownKind kinds_2)) rfl hf (fun _ => rfl) dX3_add_30 (fun kinds_2 hf => ?_)
      refine z_aload_n F 0 dX3_add_31 rfl rfl ?_
      refine z_dup F rfl dX3_add_32 ?_
      refine z_get F 0 3 1 inlX3 rfl rfl (by decide) fl_X3_25 rfl dX3_add_33 ?_
      refine z_iconst F (1) dX3_add_36 rfl ?_
      refine z_iadd F dX3_add_37 ?_
      refine z_put F 0 3 1 (w_Heads_add G a_this a_kinds a_trace (size + (1 : Int32)) ran number ownKind kinds_2) inlX3 tyX3 tyX3_ok nmX3 rfl rfl (by decide) fl_X3_25 rfl rfl rfl (Nat.le_of_ble_eq_true rfl) rfl dX3_add_38 ?_
      refine z_aload_n F 0 dX3_add_41 rfl rfl ?_
      refine z_get F 0 3 1 inlX3 rfl rfl (by decide) fl_X3_25 rfl dX3_add_42 ?_
      refine z_iconst F (1) dX3_add_45 rfl ?_
      refine z_isub F dX3_add_46 ?_
      have eq1 := Option.some.inj hf
      obtain ⟨ee1, eq2⟩ := Prod.mk.inj eq1
      obtain ⟨ee2, ee3⟩ := Prod.mk.inj eq2
      subst ee1
      subst ee2
      subst ee3
      exact z_iret F rfl rfl rfl rfl dX3_add_47
    · refine z_bipush F (-3) dX3_add_18 rfl ?_
      have eq1 := Option.some.inj hf
      obtain ⟨ee1, eq2⟩ := Prod.mk.inj eq1
      obtain ⟨ee2, ee3⟩ := Prod.mk.inj eq2
      subst ee1
      subst ee2
      subst ee3
      exact z_iret F rfl rfl rfl rfl dX3_add_20
  · refine z_iconst F (-1) dX3_add_7 rfl ?_
    have eq1 := Option.some.inj hf
    obtain ⟨ee1, eq2⟩ := Prod.mk.inj eq1
    obtain ⟨ee2, ee3⟩ := Prod.mk.inj eq2
    subst ee1
    subst ee2
    subst ee3
    exact z_iret F rfl rfl rfl rfl dX3_add_8

abbrev w_Heads_isHead (G : zG) (a_this : Nat) (a_kinds : Nat) (a_trace : Nat) (size : Int32) (ran : Int32) (number : Int32) (ownKind : Int32) : va_W := [(a_this, cO 3 [.ref a_kinds, .int size, .ref a_trace, .int ran, .int number, .int ownKind])]
def f_Heads_isHead (size : Int32) (x1 : Int32) : Int32 := (if x1 < 0 then 0 else (if size ≤ x1 then 0 else 1))
set_option maxRecDepth 100000 in
set_option maxHeartbeats 4000000 in
theorem c_Heads_isHead (l : Launch) (G : zG) (a_this : Nat) (a_kinds : Nat) (a_trace : Nat) (size : Int32) (ran : Int32) (number : Int32) (ownKind : Int32) (x1 : Int32) (r_ : Int32) (hf : f_Heads_isHead size x1 = r_) : zM l yX3_isHead cX3_isHead 2 (some .boolean) 0 0 G [.ref a_this, .int x1] (w_Heads_isHead G a_this a_kinds a_trace size ran number ownKind) (some (.int r_)) (w_Heads_isHead G a_this a_kinds a_trace size ran number ownKind) := by
  refine zM.of [(0, .ref a_this), (1, .int x1)] (own := RX3) rfl (by decide +kernel) (Nat.le_of_ble_eq_true rfl) rfl rfl fun X hX F => ?_
  subst hX
  replace hf := (f_Heads_isHead.eq_1 ..).symm.trans hf
  refine z_iload_n F 1 dX3_isHead_0 rfl rfl ?_
  refine z_if_lt F 16 dX3_isHead_1 (by decide) hf (fun hf _ => ?_) (fun hf _ => ?_)
  · refine z_iconst F (0) dX3_isHead_16 rfl ?_
    subst hf
    exact z_iret F rfl rfl rfl rfl dX3_isHead_17
  · refine z_iload_n F 1 dX3_isHead_4 rfl rfl ?_
    refine z_aload_n F 0 dX3_isHead_5 rfl rfl ?_
    refine z_get F 0 3 1 inlX3 rfl rfl (by decide) fl_X3_25 rfl dX3_isHead_6 ?_
    refine z_icmp_ge F 16 dX3_isHead_9 (by decide) hf (fun hf _ => ?_) (fun hf _ => ?_)
    · refine z_iconst F (0) dX3_isHead_16 rfl ?_
      subst hf
      exact z_iret F rfl rfl rfl rfl dX3_isHead_17
    · refine z_iconst F (1) dX3_isHead_12 rfl ?_
      refine z_goto F 17 dX3_isHead_13 (by decide) ?_
      subst hf
      exact z_iret F rfl rfl rfl rfl dX3_isHead_17

abbrev w_Heads_from (G : zG) (a_this : Nat) (a_kinds : Nat) (a_trace : Nat) (size : Int32) (ran : Int32) (number : Int32) (ownKind : Int32) (trace : Nat → Int32) : va_W := [(a_this, cO 3 [.ref a_kinds, .int size, .ref a_trace, .int ran, .int number, .int ownKind]), (a_trace, cI G 24 trace)]
def K_Heads_from (l : Launch) (G : zG) (a_this : Nat) (a_kinds : Nat) (a_trace : Nat) (fr1 lo1 : Nat) (rec : Int32 → Int32 → Int32 → (Nat → Int32) → Int32 → Int32 → Int32 → Int32 → Option (Int32 × Int32 × (Nat → Int32))) : Prop := ∀ (size : Int32) (ran : Int32) (number : Int32) (ownKind : Int32) (trace : Nat → Int32) (x1 : Int32) (x2 : Int32) (x3 : Int32) (x4 : Int32) (r_ : Int32) (o_ran : Int32) (o_trace : Nat → Int32), rec ran number ownKind trace x1 x2 x3 x4 = some (r_, o_ran, o_trace) → zM l yX3_from cX3_from 8 (some .int) fr1 lo1 G [.ref a_this, .int x1, .int x2, .int x3, .int x4] (w_Heads_from G a_this a_kinds a_trace size ran number ownKind trace) (some (.int r_)) (w_Heads_from G a_this a_kinds a_trace size o_ran number ownKind o_trace)
abbrev w_Heads_own (G : zG) (a_this : Nat) (a_kinds : Nat) (a_trace : Nat) (size : Int32) (ran : Int32) (number : Int32) (ownKind : Int32) (trace : Nat → Int32) : va_W := [(a_this, cO 3 [.ref a_kinds, .int size, .ref a_trace, .int ran, .int number, .int ownKind]), (a_trace, cI G 24 trace)]
def f_Heads_own (rec : Int32 → Int32 → Int32 → (Nat → Int32) → Int32 → Int32 → Int32 → Int32 → Option (Int32 × Int32 × (Nat → Int32))) (ran : Int32) (number : Int32) (ownKind : Int32) (trace : Nat → Int32) (x1 : Int32) (x2 : Int32) (x3 : Int32) : Option (Int32 × Int32 × (Nat → Int32)) := (zb3 (rec ran number ownKind trace ownKind x1 x2 (x3 + (1 : Int32))) fun r_1 ran_2 trace_3 => (some (r_1, ran_2, trace_3)))
set_option maxRecDepth 100000 in
set_option maxHeartbeats 4000000 in
theorem c_Heads_own (l : Launch) (G : zG) (a_this : Nat) (a_kinds : Nat) (a_trace : Nat) (size : Int32) (ran : Int32) (number : Int32) (ownKind : Int32) (trace : Nat → Int32) (x1 : Int32) (x2 : Int32) (x3 : Int32) (rec : Int32 → Int32 → Int32 → (Nat → Int32) → Int32 → Int32 → Int32 → Int32 → Option (Int32 × Int32 × (Nat → Int32))) {fr1 lo1 : Nat} (hrec : K_Heads_from l G a_this a_kinds a_trace fr1 lo1 rec) (r_ : Int32) (o_ran : Int32) (o_trace : Nat → Int32) (hf : f_Heads_own rec ran number ownKind trace x1 x2 x3 = some (r_, o_ran, o_trace)) : zM l yX3_own cX3_own 4 (some .int) (fr1 + 1) (lo1 + 27) G [.ref a_this, .int x1, .int x2, .int x3] (w_Heads_own G a_this a_kinds a_trace size ran number ownKind trace) (some (.int r_)) (w_Heads_own G a_this a_kinds a_trace size o_ran number ownKind o_trace) := by
  refine zM.of [(0, .ref a_this), (1, .int x1), (2, .int x2), (3, .int x3)] (own := RX3) rfl (by decide +kernel) (Nat.le_of_ble_eq_true rfl) rfl rfl fun X hX F => ?_
  subst hX
  replace hf := (f_Heads_own.eq_1 ..).symm.trans hf
  refine z_aload_n F 0 dX3_own_0 rfl rfl ?_
  refine z_aload_n F 0 dX3_own_1 rfl rfl ?_
  refine z_get F 0 3 5 inlX3 rfl rfl (by decide) fl_X3_38 rfl dX3_own_2 ?_
  refine z_iload_n F 1 dX3_own_5 rfl rfl ?_
  refine z_iload_n F 2 dX3_own_6 rfl rfl ?_
  refine z_iload_n F 3 dX3_own_7 rfl rfl ?_
  refine z_iconst F (1) dX3_own_8 rfl ?_
  refine z_iadd F dX3_own_9 ?_
  obtain ⟨r_1, ran_2, trace_3, hg, hf⟩ := zb3_some hf
  refine z_callVm (rest := []) F 3 (hrec size ran number ownKind trace ownKind x1 x2 (x3 + (1 : Int32)) r_1 ran_2 trace_3 hg) hy_X3_from ml_X3_45 hd_X3_from ⟨by omega, by omega⟩ rfl [0, 1] rfl rfl 0 rfl rfl (w_Heads_own G a_this a_kinds a_trace size ran_2 number ownKind trace_3) [some 0, some 1] rfl (by decide +kernel) rfl rfl (Nat.le_of_ble_eq_true rfl) dX3_own_10 (fun hz_4 => ?_)
  have eq1 := Option.some.inj hf
  obtain ⟨ee1, eq2⟩ := Prod.mk.inj eq1
  obtain ⟨ee2, ee3⟩ := Prod.mk.inj eq2
  subst ee1
  subst ee2
  subst ee3
  exact z_iret F rfl rfl rfl rfl dX3_own_13

abbrev w_Heads_note (G : zG) (a_this : Nat) (a_kinds : Nat) (a_trace : Nat) (size : Int32) (ran : Int32) (number : Int32) (ownKind : Int32) (trace : Nat → Int32) : va_W := [(a_this, cO 3 [.ref a_kinds, .int size, .ref a_trace, .int ran, .int number, .int ownKind]), (a_trace, cI G 24 trace)]
def f_Heads_note (ran : Int32) (trace : Nat → Int32) (x1 : Int32) : Option (Int32 × (Nat → Int32)) := (if (24 : Int32) ≤ ran then (some ((ran + (1 : Int32)), trace)) else (zs trace 24 ran x1 fun trace_1 => (some ((ran + (1 : Int32)), trace_1))))
set_option maxRecDepth 100000 in
set_option maxHeartbeats 4000000 in
theorem c_Heads_note (l : Launch) (G : zG) (a_this : Nat) (a_kinds : Nat) (a_trace : Nat) (size : Int32) (ran : Int32) (number : Int32) (ownKind : Int32) (trace : Nat → Int32) (x1 : Int32) (o_ran : Int32) (o_trace : Nat → Int32) (hf : f_Heads_note ran trace x1 = some (o_ran, o_trace)) : zM l yX3_note cX3_note 2 none 0 0 G [.ref a_this, .int x1] (w_Heads_note G a_this a_kinds a_trace size ran number ownKind trace) (none) (w_Heads_note G a_this a_kinds a_trace size o_ran number ownKind o_trace) := by
  refine zM.of [(0, .ref a_this), (1, .int x1)] (own := RX3) rfl (by decide +kernel) (Nat.le_of_ble_eq_true rfl) rfl rfl fun X hX F => ?_
  subst hX
  replace hf := (f_Heads_note.eq_1 ..).symm.trans hf
  refine z_aload_n F 0 dX3_note_0 rfl rfl ?_
  refine z_get F 0 3 3 inlX3 rfl rfl (by decide) fl_X3_29 rfl dX3_note_1 ?_
  refine z_bipush F (24) dX3_note_4 rfl ?_
  refine z_icmp_ge F 19 dX3_note_6 (by decide) hf (fun hf _ => ?_) (fun hf _ => ?_)
  · refine z_aload_n F 0 dX3_note_19 rfl rfl ?_
    refine z_dup F rfl dX3_note_20 ?_
    refine z_get F 0 3 3 inlX3 rfl rfl (by decide) fl_X3_29 rfl dX3_note_21 ?_
    refine z_iconst F (1) dX3_note_24 rfl ?_
    refine z_iadd F dX3_note_25 ?_
    refine z_put F 0 3 3 (w_Heads_note G a_this a_kinds a_trace size (ran + (1 : Int32)) number ownKind trace) inlX3 tyX3 tyX3_ok nmX3 rfl rfl (by decide) fl_X3_29 rfl rfl rfl (Nat.le_of_ble_eq_true rfl) rfl dX3_note_26 ?_
    have eq1 := Option.some.inj hf
    obtain ⟨ee1, ee2⟩ := Prod.mk.inj eq1
    subst ee1
    subst ee2
    exact z_vret F rfl rfl rfl dX3_note_29
  · refine z_aload_n F 0 dX3_note_9 rfl rfl ?_
    refine z_get F 0 3 2 inlX3 rfl rfl (by decide) fl_X3_15 rfl dX3_note_10 ?_
    refine z_aload_n F 0 dX3_note_13 rfl rfl ?_
    refine z_get F 0 3 3 inlX3 rfl rfl (by decide) fl_X3_29 rfl dX3_note_14 ?_
    refine z_iload_n F 1 dX3_note_17 rfl rfl ?_
    refine z_iast F 1 (fun trace_1 => (w_Heads_note G a_this a_kinds a_trace size ran number ownKind trace_1)) rfl hf (fun _ => rfl) dX3_note_18 (fun trace_1 hf => ?_)
    refine z_aload_n F 0 dX3_note_19 rfl rfl ?_
    refine z_dup F rfl dX3_note_20 ?_
    refine z_get F 0 3 3 inlX3 rfl rfl (by decide) fl_X3_29 rfl dX3_note_21 ?_
    refine z_iconst F (1) dX3_note_24 rfl ?_
    refine z_iadd F dX3_note_25 ?_
    refine z_put F 0 3 3 (w_Heads_note G a_this a_kinds a_trace size (ran + (1 : Int32)) number ownKind trace_1) inlX3 tyX3 tyX3_ok nmX3 rfl rfl (by decide) fl_X3_29 rfl rfl rfl (Nat.le_of_ble_eq_true rfl) rfl dX3_note_26 ?_
    have eq1 := Option.some.inj hf
    obtain ⟨ee1, ee2⟩ := Prod.mk.inj eq1
    subst ee1
    subst ee2
    exact z_vret F rfl rfl rfl dX3_note_29

abbrev w_Heads_above (G : zG) (a_this : Nat) (a_kinds : Nat) (a_trace : Nat) (size : Int32) (ran : Int32) (number : Int32) (ownKind : Int32) (trace : Nat → Int32) : va_W := [(a_this, cO 3 [.ref a_kinds, .int size, .ref a_trace, .int ran, .int number, .int ownKind]), (a_trace, cI G 24 trace)]
def f_Heads_above (rec : Int32 → Int32 → Int32 → (Nat → Int32) → Int32 → Int32 → Int32 → Int32 → Option (Int32 × Int32 × (Nat → Int32))) (ran : Int32) (number : Int32) (ownKind : Int32) (trace : Nat → Int32) (x1 : Int32) (x2 : Int32) (x3 : Int32) (x4 : Int32) : Option (Int32 × Int32 × (Nat → Int32)) := (if (f_Heads_isKind x1) = 0 then (some (0, ran, trace)) else (zg zAb 8 x1 fun v_2 => (zb3 (rec ran number ownKind trace v_2 x2 x3 (x4 + (1 : Int32))) fun r_3 ran_4 trace_5 => (some (r_3, ran_4, trace_5)))))
set_option maxRecDepth 100000 in
set_option maxHeartbeats 4000000 in
theorem c_Heads_above (l : Launch) (G : zG) (a_this : Nat) (a_kinds : Nat) (a_trace : Nat) (size : Int32) (ran : Int32) (number : Int32) (ownKind : Int32) (trace : Nat → Int32) (x1 : Int32) (x2 : Int32) (x3 : Int32) (x4 : Int32) (rec : Int32 → Int32 → Int32 → (Nat → Int32) → Int32 → Int32 → Int32 → Int32 → Option (Int32 × Int32 × (Nat → Int32))) {fr1 lo1 : Nat} (hrec : K_Heads_from l G a_this a_kinds a_trace fr1 lo1 rec) (r_ : Int32) (o_ran : Int32) (o_trace : Nat → Int32) (hf : f_Heads_above rec ran number ownKind trace x1 x2 x3 x4 = some (r_, o_ran, o_trace)) : zM l yX3_above cX3_above 5 (some .int) (fr1 + 1) (lo1 + 27) G [.ref a_this, .int x1, .int x2, .int x3, .int x4] (w_Heads_above G a_this a_kinds a_trace size ran number ownKind trace) (some (.int r_)) (w_Heads_above G a_this a_kinds a_trace size o_ran number ownKind o_trace) := by
  refine zM.of [(0, .ref a_this), (1, .int x1), (2, .int x2), (3, .int x3), (4, .int x4)] (own := RX3) rfl (by decide +kernel) (Nat.le_of_ble_eq_true rfl) rfl rfl fun X hX F => ?_
  subst hX
  replace hf := (f_Heads_above.eq_1 ..).symm.trans hf
  refine z_iload_n F 1 dX3_above_0 rfl rfl ?_
  refine z_callSm (rest := []) F (c_Heads_isKind (xL X) G x1 _ rfl) hy_X3_isKind ml_X3_18 hd_X3_isKind ⟨by omega, by omega⟩ rfl [] rfl rfl (w_Heads_above G a_this a_kinds a_trace size ran number ownKind trace) [none, none] rfl (by decide +kernel) rfl rfl (Nat.le_of_ble_eq_true rfl) dX3_above_1 (fun hz_1 => ?_)
  refine z_if_eq F 25 dX3_above_4 (by decide) hf (fun hf _ => ?_) (fun hf _ => ?_)
  · refine z_iconst F (0) dX3_above_25 rfl ?_
    have eq1 := Option.some.inj hf
    obtain ⟨ee1, eq2⟩ := Prod.mk.inj eq1
    obtain ⟨ee2, ee3⟩ := Prod.mk.inj eq2
    subst ee1
    subst ee2
    subst ee3
    exact z_iret F rfl rfl rfl rfl dX3_above_26
  · refine z_aload_n F 0 dX3_above_7 rfl rfl ?_
    refine z_gs1 F (uw51 _ (List.mem_of_getElem? (i := 19) rfl)) dX3_above_8 ?_
    refine z_iload_n F 1 dX3_above_11 rfl rfl ?_
    refine z_ld1 F hf dX3_above_12 (fun v_2 hf => ?_)
    refine z_iload_n F 2 dX3_above_13 rfl rfl ?_
    refine z_iload_n F 3 dX3_above_14 rfl rfl ?_
    refine z_iload F 4 dX3_above_15 rfl ?_
    refine z_iconst F (1) dX3_above_17 rfl ?_
    refine z_iadd F dX3_above_18 ?_
    obtain ⟨r_3, ran_4, trace_5, hg, hf⟩ := zb3_some hf
    refine z_callVm (rest := []) F 3 (hrec size ran number ownKind trace v_2 x2 x3 (x4 + (1 : Int32)) r_3 ran_4 trace_5 hg) hy_X3_from ml_X3_45 hd_X3_from ⟨by omega, by omega⟩ rfl [0, 1] rfl rfl 0 rfl rfl (w_Heads_above G a_this a_kinds a_trace size ran_4 number ownKind trace_5) [some 0, some 1] rfl (by decide +kernel) rfl rfl (Nat.le_of_ble_eq_true rfl) dX3_above_19 (fun hz_6 => ?_)
    refine z_goto F 26 dX3_above_22 (by decide) ?_
    have eq1 := Option.some.inj hf
    obtain ⟨ee1, eq2⟩ := Prod.mk.inj eq1
    obtain ⟨ee2, ee3⟩ := Prod.mk.inj eq2
    subst ee1
    subst ee2
    subst ee3
    exact z_iret F rfl rfl rfl rfl dX3_above_26

abbrev w_Heads_run (G : zG) (a_this : Nat) (a_kinds : Nat) (a_trace : Nat) (size : Int32) (ran : Int32) (number : Int32) (ownKind : Int32) (trace : Nat → Int32) : va_W := [(a_this, cO 3 [.ref a_kinds, .int size, .ref a_trace, .int ran, .int number, .int ownKind]), (a_trace, cI G 24 trace)]
def f_Heads_run (rec : Int32 → Int32 → Int32 → (Nat → Int32) → Int32 → Int32 → Int32 → Int32 → Option (Int32 × Int32 × (Nat → Int32))) (ran : Int32) (number : Int32) (ownKind : Int32) (trace : Nat → Int32) (x1 : Int32) (x2 : Int32) (x3 : Int32) (x4 : Int32) : Option (Int32 × Int32 × (Nat → Int32)) := (zb2 (f_Heads_note ran trace x1) fun ran_1 trace_2 => (if x1 = 1 then (some ((x3 + number), ran_1, trace_2)) else (if x1 = 2 then (zb3 (f_Heads_own rec ran_1 number ownKind trace_2 1 x3 x4) fun r_6 ran_7 trace_8 => (zb3 (f_Heads_own rec ran_7 number ownKind trace_8 2 1 x4) fun r_10 ran_11 trace_12 => (some ((r_6 - r_10), ran_11, trace_12)))) else (if x1 = 10 then (zb3 (f_Heads_own rec ran_1 number ownKind trace_2 0 x3 x4) fun r_15 ran_16 trace_17 => (some ((r_15 * (2 : Int32)), ran_16, trace_17))) else (if x1 = 11 then (some ((x3 ^^^ number), ran_1, trace_2)) else (if x1 = 20 then (zb3 (f_Heads_above rec ran_1 number ownKind trace_2 x2 0 x3 x4) fun r_21 ran_22 trace_23 => (some ((r_21 + (3 : Int32)), ran_22, trace_23))) else (if x1 = 30 then (zb3 (f_Heads_above rec ran_1 number ownKind trace_2 x2 1 x3 x4) fun r_26 ran_27 trace_28 => (some ((-r_26), ran_27, trace_28))) else (if x1 = 40 then (zb3 (f_Heads_above rec ran_1 number ownKind trace_2 x2 2 x3 x4) fun r_31 ran_32 trace_33 => (some ((r_31 * (3 : Int32)), ran_32, trace_33))) else (if x1 = 41 then (zb3 (f_Heads_above rec ran_1 number ownKind trace_2 x2 1 (x3 + (1 : Int32)) x4) fun r_36 ran_37 trace_38 => (some (r_36, ran_37, trace_38))) else (if x1 = 50 then (zb3 (f_Heads_above rec ran_1 number ownKind trace_2 x2 2 x3 x4) fun r_41 ran_42 trace_43 => (zb3 (f_Heads_own rec ran_42 number ownKind trace_43 0 2 x4) fun r_45 ran_46 trace_47 => (some ((r_41 - r_45), ran_46, trace_47)))) else (if x1 = 60 then (zb3 (f_Heads_above rec ran_1 number ownKind trace_2 x2 3 x3 x4) fun r_50 ran_51 trace_52 => (some ((r_50 ^^^ (5 : Int32)), ran_51, trace_52))) else (if x1 = 70 then (zb3 (f_Heads_above rec ran_1 number ownKind trace_2 x2 0 x3 x4) fun r_55 ran_56 trace_57 => (some ((r_55 * (2 : Int32)), ran_56, trace_57))) else (if x1 = 80 then (zb3 (f_Heads_above rec ran_1 number ownKind trace_2 x2 1 x3 x4) fun r_60 ran_61 trace_62 => (zb3 (f_Heads_own rec ran_61 number ownKind trace_62 2 2 x4) fun r_64 ran_65 trace_66 => (some ((r_60 + r_64), ran_65, trace_66)))) else (if x1 = 81 then (zb3 (f_Heads_above rec ran_1 number ownKind trace_2 x2 3 x3 x4) fun r_69 ran_70 trace_71 => (some ((r_69 - (1 : Int32)), ran_70, trace_71))) else (some (0, ran_1, trace_2))))))))))))))))
set_option maxRecDepth 100000 in
set_option maxHeartbeats 4000000 in
theorem c_Heads_run (l : Launch) (G : zG) (a_this : Nat) (a_kinds : Nat) (a_trace : Nat) (size : Int32) (ran : Int32) (number : Int32) (ownKind : Int32) (trace : Nat → Int32) (x1 : Int32) (x2 : Int32) (x3 : Int32) (x4 : Int32) (rec : Int32 → Int32 → Int32 → (Nat → Int32) → Int32 → Int32 → Int32 → Int32 → Option (Int32 × Int32 × (Nat → Int32))) {fr1 lo1 : Nat} (hrec : K_Heads_from l G a_this a_kinds a_trace fr1 lo1 rec) (r_ : Int32) (o_ran : Int32) (o_trace : Nat → Int32) (hf : f_Heads_run rec ran number ownKind trace x1 x2 x3 x4 = some (r_, o_ran, o_trace)) : zM l yX3_run cX3_run 5 (some .int) (fr1 + 2) (lo1 + 51) G [.ref a_this, .int x1, .int x2, .int x3, .int x4] (w_Heads_run G a_this a_kinds a_trace size ran number ownKind trace) (some (.int r_)) (w_Heads_run G a_this a_kinds a_trace size o_ran number ownKind o_trace) := by
  refine zM.of [(0, .ref a_this), (1, .int x1), (2, .int x2), (3, .int x3), (4, .int x4)] (own := RX3) rfl (by decide +kernel) (Nat.le_of_ble_eq_true rfl) rfl rfl fun X hX F => ?_
  subst hX
  replace hf := (f_Heads_run.eq_1 ..).symm.trans hf
  refine z_aload_n F 0 dX3_run_0 rfl rfl ?_
  refine z_iload_n F 1 dX3_run_1 rfl rfl ?_
  obtain ⟨ran_1, trace_2, hg, hf⟩ := zb2_some hf
  refine z_callVm (rest := []) F 3 (c_Heads_note (xL X) G a_this a_kinds a_trace size ran number ownKind trace x1 ran_1 trace_2 hg) hy_X3_note ml_X3_55 hd_X3_note ⟨by omega, by omega⟩ rfl [0, 1] rfl rfl 0 rfl rfl (w_Heads_run G a_this a_kinds a_trace size ran_1 number ownKind trace_2) [some 0, some 1] rfl (by decide +kernel) rfl rfl (Nat.le_of_ble_eq_true rfl) dX3_run_2 (fun hz_3 => ?_)
  refine z_iload_n F 1 dX3_run_5 rfl rfl ?_
  by_cases hc_4 : x1 = 1
  · replace hf := zif_t hf hc_4
    refine z_lookup (off := 114) F 120 dX3_run_6 (by decide +kernel) (by rw [hc_4]; decide +kernel) (by decide) ?_
    refine z_iload_n F 3 dX3_run_120 rfl rfl ?_
    refine z_aload_n F 0 dX3_run_121 rfl rfl ?_
    refine z_get F 0 3 4 inlX3 rfl rfl (by decide) fl_X3_35 rfl dX3_run_122 ?_
    refine z_iadd F dX3_run_125 ?_
    have eq1 := Option.some.inj hf
    obtain ⟨ee1, eq2⟩ := Prod.mk.inj eq1
    obtain ⟨ee2, ee3⟩ := Prod.mk.inj eq2
    subst ee1
    subst ee2
    subst ee3
    exact z_iret F rfl rfl rfl rfl dX3_run_126
  · replace hf := zif_f hf hc_4
    by_cases hc_5 : x1 = 2
    · replace hf := zif_t hf hc_5
      refine z_lookup (off := 121) F 127 dX3_run_6 (by decide +kernel) (by rw [hc_5]; decide +kernel) (by decide) ?_
      refine z_aload_n F 0 dX3_run_127 rfl rfl ?_
      refine z_iconst F (1) dX3_run_128 rfl ?_
      refine z_iload_n F 3 dX3_run_129 rfl rfl ?_
      refine z_iload F 4 dX3_run_130 rfl ?_
      obtain ⟨r_6, ran_7, trace_8, hg, hf⟩ := zb3_some hf
      refine z_callVm (rest := []) F 3 (c_Heads_own (xL X) G a_this a_kinds a_trace size ran_1 number ownKind trace_2 1 x3 x4 rec hrec r_6 ran_7 trace_8 hg) hy_X3_own ml_X3_41 hd_X3_own ⟨by omega, by omega⟩ rfl [0, 1] rfl rfl 0 rfl rfl (w_Heads_run G a_this a_kinds a_trace size ran_7 number ownKind trace_8) [some 0, some 1] rfl (by decide +kernel) rfl rfl (Nat.le_of_ble_eq_true rfl) dX3_run_132 (fun hz_9 => ?_)
      refine z_aload_n F 0 dX3_run_135 rfl rfl ?_
      refine z_iconst F (2) dX3_run_136 rfl ?_
      refine z_iconst F (1) dX3_run_137 rfl ?_
      refine z_iload F 4 dX3_run_138 rfl ?_
      obtain ⟨r_10, ran_11, trace_12, hg, hf⟩ := zb3_some hf
      refine z_callVm (rest := [.int r_6]) F 3 (c_Heads_own (xL X) G a_this a_kinds a_trace size ran_7 number ownKind trace_8 2 1 x4 rec hrec r_10 ran_11 trace_12 hg) hy_X3_own ml_X3_41 hd_X3_own ⟨by omega, by omega⟩ rfl [0, 1] rfl rfl 0 rfl rfl (w_Heads_run G a_this a_kinds a_trace size ran_11 number ownKind trace_12) [some 0, some 1] rfl (by decide +kernel) rfl rfl (Nat.le_of_ble_eq_true rfl) dX3_run_140 (fun hz_13 => ?_)
      refine z_isub F dX3_run_143 ?_
      have eq1 := Option.some.inj hf
      obtain ⟨ee1, eq2⟩ := Prod.mk.inj eq1
      obtain ⟨ee2, ee3⟩ := Prod.mk.inj eq2
      subst ee1
      subst ee2
      subst ee3
      exact z_iret F rfl rfl rfl rfl dX3_run_144
    · replace hf := zif_f hf hc_5
      by_cases hc_14 : x1 = 10
      · replace hf := zif_t hf hc_14
        refine z_lookup (off := 139) F 145 dX3_run_6 (by decide +kernel) (by rw [hc_14]; decide +kernel) (by decide) ?_
        refine z_aload_n F 0 dX3_run_145 rfl rfl ?_
        refine z_iconst F (0) dX3_run_146 rfl ?_
        refine z_iload_n F 3 dX3_run_147 rfl rfl ?_
        refine z_iload F 4 dX3_run_148 rfl ?_
        obtain ⟨r_15, ran_16, trace_17, hg, hf⟩ := zb3_some hf
        refine z_callVm (rest := []) F 3 (c_Heads_own (xL X) G a_this a_kinds a_trace size ran_1 number ownKind trace_2 0 x3 x4 rec hrec r_15 ran_16 trace_17 hg) hy_X3_own ml_X3_41 hd_X3_own ⟨by omega, by omega⟩ rfl [0, 1] rfl rfl 0 rfl rfl (w_Heads_run G a_this a_kinds a_trace size ran_16 number ownKind trace_17) [some 0, some 1] rfl (by decide +kernel) rfl rfl (Nat.le_of_ble_eq_true rfl) dX3_run_150 (fun hz_18 => ?_)
        refine z_iconst F (2) dX3_run_153 rfl ?_
        refine z_imul F dX3_run_154 ?_
        have eq1 := Option.some.inj hf
        obtain ⟨ee1, eq2⟩ := Prod.mk.inj eq1
        obtain ⟨ee2, ee3⟩ := Prod.mk.inj eq2
        subst ee1
        subst ee2
        subst ee3
        exact z_iret F rfl rfl rfl rfl dX3_run_155
      · replace hf := zif_f hf hc_14
        by_cases hc_19 : x1 = 11
        · replace hf := zif_t hf hc_19
          refine z_lookup (off := 150) F 156 dX3_run_6 (by decide +kernel) (by rw [hc_19]; decide +kernel) (by decide) ?_
          refine z_iload_n F 3 dX3_run_156 rfl rfl ?_
          refine z_aload_n F 0 dX3_run_157 rfl rfl ?_
          refine z_get F 0 3 4 inlX3 rfl rfl (by decide) fl_X3_35 rfl dX3_run_158 ?_
          refine z_ixor F dX3_run_161 ?_
          have eq1 := Option.some.inj hf
          obtain ⟨ee1, eq2⟩ := Prod.mk.inj eq1
          obtain ⟨ee2, ee3⟩ := Prod.mk.inj eq2
          subst ee1
          subst ee2
          subst ee3
          exact z_iret F rfl rfl rfl rfl dX3_run_162
        · replace hf := zif_f hf hc_19
          by_cases hc_20 : x1 = 20
          · replace hf := zif_t hf hc_20
            refine z_lookup (off := 157) F 163 dX3_run_6 (by decide +kernel) (by rw [hc_20]; decide +kernel) (by decide) ?_
            refine z_aload_n F 0 dX3_run_163 rfl rfl ?_
            refine z_iload_n F 2 dX3_run_164 rfl rfl ?_
            refine z_iconst F (0) dX3_run_165 rfl ?_
            refine z_iload_n F 3 dX3_run_166 rfl rfl ?_
            refine z_iload F 4 dX3_run_167 rfl ?_
            obtain ⟨r_21, ran_22, trace_23, hg, hf⟩ := zb3_some hf
            refine z_callVm (rest := []) F 3 (c_Heads_above (xL X) G a_this a_kinds a_trace size ran_1 number ownKind trace_2 x2 0 x3 x4 rec hrec r_21 ran_22 trace_23 hg) hy_X3_above ml_X3_59 hd_X3_above ⟨by omega, by omega⟩ rfl [0, 1] rfl rfl 0 rfl rfl (w_Heads_run G a_this a_kinds a_trace size ran_22 number ownKind trace_23) [some 0, some 1] rfl (by decide +kernel) rfl rfl (Nat.le_of_ble_eq_true rfl) dX3_run_169 (fun hz_24 => ?_)
            refine z_iconst F (3) dX3_run_172 rfl ?_
            refine z_iadd F dX3_run_173 ?_
            have eq1 := Option.some.inj hf
            obtain ⟨ee1, eq2⟩ := Prod.mk.inj eq1
            obtain ⟨ee2, ee3⟩ := Prod.mk.inj eq2
            subst ee1
            subst ee2
            subst ee3
            exact z_iret F rfl rfl rfl rfl dX3_run_174
          · replace hf := zif_f hf hc_20
            by_cases hc_25 : x1 = 30
            · replace hf := zif_t hf hc_25
              refine z_lookup (off := 169) F 175 dX3_run_6 (by decide +kernel) (by rw [hc_25]; decide +kernel) (by decide) ?_
              refine z_aload_n F 0 dX3_run_175 rfl rfl ?_
              refine z_iload_n F 2 dX3_run_176 rfl rfl ?_
              refine z_iconst F (1) dX3_run_177 rfl ?_
              refine z_iload_n F 3 dX3_run_178 rfl rfl ?_
              refine z_iload F 4 dX3_run_179 rfl ?_
              obtain ⟨r_26, ran_27, trace_28, hg, hf⟩ := zb3_some hf
              refine z_callVm (rest := []) F 3 (c_Heads_above (xL X) G a_this a_kinds a_trace size ran_1 number ownKind trace_2 x2 1 x3 x4 rec hrec r_26 ran_27 trace_28 hg) hy_X3_above ml_X3_59 hd_X3_above ⟨by omega, by omega⟩ rfl [0, 1] rfl rfl 0 rfl rfl (w_Heads_run G a_this a_kinds a_trace size ran_27 number ownKind trace_28) [some 0, some 1] rfl (by decide +kernel) rfl rfl (Nat.le_of_ble_eq_true rfl) dX3_run_181 (fun hz_29 => ?_)
              refine z_ineg F dX3_run_184 ?_
              have eq1 := Option.some.inj hf
              obtain ⟨ee1, eq2⟩ := Prod.mk.inj eq1
              obtain ⟨ee2, ee3⟩ := Prod.mk.inj eq2
              subst ee1
              subst ee2
              subst ee3
              exact z_iret F rfl rfl rfl rfl dX3_run_185
            · replace hf := zif_f hf hc_25
              by_cases hc_30 : x1 = 40
              · replace hf := zif_t hf hc_30
                refine z_lookup (off := 180) F 186 dX3_run_6 (by decide +kernel) (by rw [hc_30]; decide +kernel) (by decide) ?_
                refine z_aload_n F 0 dX3_run_186 rfl rfl ?_
                refine z_iload_n F 2 dX3_run_187 rfl rfl ?_
                refine z_iconst F (2) dX3_run_188 rfl ?_
                refine z_iload_n F 3 dX3_run_189 rfl rfl ?_
                refine z_iload F 4 dX3_run_190 rfl ?_
                obtain ⟨r_31, ran_32, trace_33, hg, hf⟩ := zb3_some hf
                refine z_callVm (rest := []) F 3 (c_Heads_above (xL X) G a_this a_kinds a_trace size ran_1 number ownKind trace_2 x2 2 x3 x4 rec hrec r_31 ran_32 trace_33 hg) hy_X3_above ml_X3_59 hd_X3_above ⟨by omega, by omega⟩ rfl [0, 1] rfl rfl 0 rfl rfl (w_Heads_run G a_this a_kinds a_trace size ran_32 number ownKind trace_33) [some 0, some 1] rfl (by decide +kernel) rfl rfl (Nat.le_of_ble_eq_true rfl) dX3_run_192 (fun hz_34 => ?_)
                refine z_iconst F (3) dX3_run_195 rfl ?_
                refine z_imul F dX3_run_196 ?_
                have eq1 := Option.some.inj hf
                obtain ⟨ee1, eq2⟩ := Prod.mk.inj eq1
                obtain ⟨ee2, ee3⟩ := Prod.mk.inj eq2
                subst ee1
                subst ee2
                subst ee3
                exact z_iret F rfl rfl rfl rfl dX3_run_197
              · replace hf := zif_f hf hc_30
                by_cases hc_35 : x1 = 41
                · replace hf := zif_t hf hc_35
                  refine z_lookup (off := 192) F 198 dX3_run_6 (by decide +kernel) (by rw [hc_35]; decide +kernel) (by decide) ?_
                  refine z_aload_n F 0 dX3_run_198 rfl rfl ?_
                  refine z_iload_n F 2 dX3_run_199 rfl rfl ?_
                  refine z_iconst F (1) dX3_run_200 rfl ?_
                  refine z_iload_n F 3 dX3_run_201 rfl rfl ?_
                  refine z_iconst F (1) dX3_run_202 rfl ?_
                  refine z_iadd F dX3_run_203 ?_
                  refine z_iload F 4 dX3_run_204 rfl ?_
                  obtain ⟨r_36, ran_37, trace_38, hg, hf⟩ := zb3_some hf
                  refine z_callVm (rest := []) F 3 (c_Heads_above (xL X) G a_this a_kinds a_trace size ran_1 number ownKind trace_2 x2 1 (x3 + (1 : Int32)) x4 rec hrec r_36 ran_37 trace_38 hg) hy_X3_above ml_X3_59 hd_X3_above ⟨by omega, by omega⟩ rfl [0, 1] rfl rfl 0 rfl rfl (w_Heads_run G a_this a_kinds a_trace size ran_37 number ownKind trace_38) [some 0, some 1] rfl (by decide +kernel) rfl rfl (Nat.le_of_ble_eq_true rfl) dX3_run_206 (fun hz_39 => ?_)
                  have eq1 := Option.some.inj hf
                  obtain ⟨ee1, eq2⟩ := Prod.mk.inj eq1
                  obtain ⟨ee2, ee3⟩ := Prod.mk.inj eq2
                  subst ee1
                  subst ee2
                  subst ee3
                  exact z_iret F rfl rfl rfl rfl dX3_run_209
                · replace hf := zif_f hf hc_35
                  by_cases hc_40 : x1 = 50
                  · replace hf := zif_t hf hc_40
                    refine z_lookup (off := 204) F 210 dX3_run_6 (by decide +kernel) (by rw [hc_40]; decide +kernel) (by decide) ?_
                    refine z_aload_n F 0 dX3_run_210 rfl rfl ?_
                    refine z_iload_n F 2 dX3_run_211 rfl rfl ?_
                    refine z_iconst F (2) dX3_run_212 rfl ?_
                    refine z_iload_n F 3 dX3_run_213 rfl rfl ?_
                    refine z_iload F 4 dX3_run_214 rfl ?_
                    obtain ⟨r_41, ran_42, trace_43, hg, hf⟩ := zb3_some hf
                    refine z_callVm (rest := []) F 3 (c_Heads_above (xL X) G a_this a_kinds a_trace size ran_1 number ownKind trace_2 x2 2 x3 x4 rec hrec r_41 ran_42 trace_43 hg) hy_X3_above ml_X3_59 hd_X3_above ⟨by omega, by omega⟩ rfl [0, 1] rfl rfl 0 rfl rfl (w_Heads_run G a_this a_kinds a_trace size ran_42 number ownKind trace_43) [some 0, some 1] rfl (by decide +kernel) rfl rfl (Nat.le_of_ble_eq_true rfl) dX3_run_216 (fun hz_44 => ?_)
                    refine z_aload_n F 0 dX3_run_219 rfl rfl ?_
                    refine z_iconst F (0) dX3_run_220 rfl ?_
                    refine z_iconst F (2) dX3_run_221 rfl ?_
                    refine z_iload F 4 dX3_run_222 rfl ?_
                    obtain ⟨r_45, ran_46, trace_47, hg, hf⟩ := zb3_some hf
                    refine z_callVm (rest := [.int r_41]) F 3 (c_Heads_own (xL X) G a_this a_kinds a_trace size ran_42 number ownKind trace_43 0 2 x4 rec hrec r_45 ran_46 trace_47 hg) hy_X3_own ml_X3_41 hd_X3_own ⟨by omega, by omega⟩ rfl [0, 1] rfl rfl 0 rfl rfl (w_Heads_run G a_this a_kinds a_trace size ran_46 number ownKind trace_47) [some 0, some 1] rfl (by decide +kernel) rfl rfl (Nat.le_of_ble_eq_true rfl) dX3_run_224 (fun hz_48 => ?_)
                    refine z_isub F dX3_run_227 ?_
                    have eq1 := Option.some.inj hf
                    obtain ⟨ee1, eq2⟩ := Prod.mk.inj eq1
                    obtain ⟨ee2, ee3⟩ := Prod.mk.inj eq2
                    subst ee1
                    subst ee2
                    subst ee3
                    exact z_iret F rfl rfl rfl rfl dX3_run_228
                  · replace hf := zif_f hf hc_40
                    by_cases hc_49 : x1 = 60
                    · replace hf := zif_t hf hc_49
                      refine z_lookup (off := 223) F 229 dX3_run_6 (by decide +kernel) (by rw [hc_49]; decide +kernel) (by decide) ?_
                      refine z_aload_n F 0 dX3_run_229 rfl rfl ?_
                      refine z_iload_n F 2 dX3_run_230 rfl rfl ?_
                      refine z_iconst F (3) dX3_run_231 rfl ?_
                      refine z_iload_n F 3 dX3_run_232 rfl rfl ?_
                      refine z_iload F 4 dX3_run_233 rfl ?_
                      obtain ⟨r_50, ran_51, trace_52, hg, hf⟩ := zb3_some hf
                      refine z_callVm (rest := []) F 3 (c_Heads_above (xL X) G a_this a_kinds a_trace size ran_1 number ownKind trace_2 x2 3 x3 x4 rec hrec r_50 ran_51 trace_52 hg) hy_X3_above ml_X3_59 hd_X3_above ⟨by omega, by omega⟩ rfl [0, 1] rfl rfl 0 rfl rfl (w_Heads_run G a_this a_kinds a_trace size ran_51 number ownKind trace_52) [some 0, some 1] rfl (by decide +kernel) rfl rfl (Nat.le_of_ble_eq_true rfl) dX3_run_235 (fun hz_53 => ?_)
                      refine z_iconst F (5) dX3_run_238 rfl ?_
                      refine z_ixor F dX3_run_239 ?_
                      have eq1 := Option.some.inj hf
                      obtain ⟨ee1, eq2⟩ := Prod.mk.inj eq1
                      obtain ⟨ee2, ee3⟩ := Prod.mk.inj eq2
                      subst ee1
                      subst ee2
                      subst ee3
                      exact z_iret F rfl rfl rfl rfl dX3_run_240
                    · replace hf := zif_f hf hc_49
                      by_cases hc_54 : x1 = 70
                      · replace hf := zif_t hf hc_54
                        refine z_lookup (off := 235) F 241 dX3_run_6 (by decide +kernel) (by rw [hc_54]; decide +kernel) (by decide) ?_
                        refine z_aload_n F 0 dX3_run_241 rfl rfl ?_
                        refine z_iload_n F 2 dX3_run_242 rfl rfl ?_
                        refine z_iconst F (0) dX3_run_243 rfl ?_
                        refine z_iload_n F 3 dX3_run_244 rfl rfl ?_
                        refine z_iload F 4 dX3_run_245 rfl ?_
                        obtain ⟨r_55, ran_56, trace_57, hg, hf⟩ := zb3_some hf
                        refine z_callVm (rest := []) F 3 (c_Heads_above (xL X) G a_this a_kinds a_trace size ran_1 number ownKind trace_2 x2 0 x3 x4 rec hrec r_55 ran_56 trace_57 hg) hy_X3_above ml_X3_59 hd_X3_above ⟨by omega, by omega⟩ rfl [0, 1] rfl rfl 0 rfl rfl (w_Heads_run G a_this a_kinds a_trace size ran_56 number ownKind trace_57) [some 0, some 1] rfl (by decide +kernel) rfl rfl (Nat.le_of_ble_eq_true rfl) dX3_run_247 (fun hz_58 => ?_)
                        refine z_iconst F (2) dX3_run_250 rfl ?_
                        refine z_imul F dX3_run_251 ?_
                        have eq1 := Option.some.inj hf
                        obtain ⟨ee1, eq2⟩ := Prod.mk.inj eq1
                        obtain ⟨ee2, ee3⟩ := Prod.mk.inj eq2
                        subst ee1
                        subst ee2
                        subst ee3
                        exact z_iret F rfl rfl rfl rfl dX3_run_252
                      · replace hf := zif_f hf hc_54
                        by_cases hc_59 : x1 = 80
                        · replace hf := zif_t hf hc_59
                          refine z_lookup (off := 247) F 253 dX3_run_6 (by decide +kernel) (by rw [hc_59]; decide +kernel) (by decide) ?_
                          refine z_aload_n F 0 dX3_run_253 rfl rfl ?_
                          refine z_iload_n F 2 dX3_run_254 rfl rfl ?_
                          refine z_iconst F (1) dX3_run_255 rfl ?_
                          refine z_iload_n F 3 dX3_run_256 rfl rfl ?_
                          refine z_iload F 4 dX3_run_257 rfl ?_
                          obtain ⟨r_60, ran_61, trace_62, hg, hf⟩ := zb3_some hf
                          refine z_callVm (rest := []) F 3 (c_Heads_above (xL X) G a_this a_kinds a_trace size ran_1 number ownKind trace_2 x2 1 x3 x4 rec hrec r_60 ran_61 trace_62 hg) hy_X3_above ml_X3_59 hd_X3_above ⟨by omega, by omega⟩ rfl [0, 1] rfl rfl 0 rfl rfl (w_Heads_run G a_this a_kinds a_trace size ran_61 number ownKind trace_62) [some 0, some 1] rfl (by decide +kernel) rfl rfl (Nat.le_of_ble_eq_true rfl) dX3_run_259 (fun hz_63 => ?_)
                          refine z_aload_n F 0 dX3_run_262 rfl rfl ?_
                          refine z_iconst F (2) dX3_run_263 rfl ?_
                          refine z_iconst F (2) dX3_run_264 rfl ?_
                          refine z_iload F 4 dX3_run_265 rfl ?_
                          obtain ⟨r_64, ran_65, trace_66, hg, hf⟩ := zb3_some hf
                          refine z_callVm (rest := [.int r_60]) F 3 (c_Heads_own (xL X) G a_this a_kinds a_trace size ran_61 number ownKind trace_62 2 2 x4 rec hrec r_64 ran_65 trace_66 hg) hy_X3_own ml_X3_41 hd_X3_own ⟨by omega, by omega⟩ rfl [0, 1] rfl rfl 0 rfl rfl (w_Heads_run G a_this a_kinds a_trace size ran_65 number ownKind trace_66) [some 0, some 1] rfl (by decide +kernel) rfl rfl (Nat.le_of_ble_eq_true rfl) dX3_run_267 (fun hz_67 => ?_)
                          refine z_iadd F dX3_run_270 ?_
                          have eq1 := Option.some.inj hf
                          obtain ⟨ee1, eq2⟩ := Prod.mk.inj eq1
                          obtain ⟨ee2, ee3⟩ := Prod.mk.inj eq2
                          subst ee1
                          subst ee2
                          subst ee3
                          exact z_iret F rfl rfl rfl rfl dX3_run_271
                        · replace hf := zif_f hf hc_59
                          by_cases hc_68 : x1 = 81
                          · replace hf := zif_t hf hc_68
                            refine z_lookup (off := 266) F 272 dX3_run_6 (by decide +kernel) (by rw [hc_68]; decide +kernel) (by decide) ?_
                            refine z_aload_n F 0 dX3_run_272 rfl rfl ?_
                            refine z_iload_n F 2 dX3_run_273 rfl rfl ?_
                            refine z_iconst F (3) dX3_run_274 rfl ?_
                            refine z_iload_n F 3 dX3_run_275 rfl rfl ?_
                            refine z_iload F 4 dX3_run_276 rfl ?_
                            obtain ⟨r_69, ran_70, trace_71, hg, hf⟩ := zb3_some hf
                            refine z_callVm (rest := []) F 3 (c_Heads_above (xL X) G a_this a_kinds a_trace size ran_1 number ownKind trace_2 x2 3 x3 x4 rec hrec r_69 ran_70 trace_71 hg) hy_X3_above ml_X3_59 hd_X3_above ⟨by omega, by omega⟩ rfl [0, 1] rfl rfl 0 rfl rfl (w_Heads_run G a_this a_kinds a_trace size ran_70 number ownKind trace_71) [some 0, some 1] rfl (by decide +kernel) rfl rfl (Nat.le_of_ble_eq_true rfl) dX3_run_278 (fun hz_72 => ?_)
                            refine z_iconst F (1) dX3_run_281 rfl ?_
                            refine z_isub F dX3_run_282 ?_
                            have eq1 := Option.some.inj hf
                            obtain ⟨ee1, eq2⟩ := Prod.mk.inj eq1
                            obtain ⟨ee2, ee3⟩ := Prod.mk.inj eq2
                            subst ee1
                            subst ee2
                            subst ee3
                            exact z_iret F rfl rfl rfl rfl dX3_run_283
                          · replace hf := zif_f hf hc_68
                            refine z_lookup (off := 278) F 284 dX3_run_6 (by decide +kernel) (zlk x1 [(1, 114), (2, 121), (10, 139), (11, 150), (20, 157), (30, 169), (40, 180), (41, 192), (50, 204), (60, 223), (70, 235), (80, 247), (81, 266)] (278) (List.forall_mem_cons.mpr ⟨zne hc_4 (c := 1) (k := 1) rfl, List.forall_mem_cons.mpr ⟨zne hc_5 (c := 2) (k := 2) rfl, List.forall_mem_cons.mpr ⟨zne hc_14 (c := 10) (k := 10) rfl, List.forall_mem_cons.mpr ⟨zne hc_19 (c := 11) (k := 11) rfl, List.forall_mem_cons.mpr ⟨zne hc_20 (c := 20) (k := 20) rfl, List.forall_mem_cons.mpr ⟨zne hc_25 (c := 30) (k := 30) rfl, List.forall_mem_cons.mpr ⟨zne hc_30 (c := 40) (k := 40) rfl, List.forall_mem_cons.mpr ⟨zne hc_35 (c := 41) (k := 41) rfl, List.forall_mem_cons.mpr ⟨zne hc_40 (c := 50) (k := 50) rfl, List.forall_mem_cons.mpr ⟨zne hc_49 (c := 60) (k := 60) rfl, List.forall_mem_cons.mpr ⟨zne hc_54 (c := 70) (k := 70) rfl, List.forall_mem_cons.mpr ⟨zne hc_59 (c := 80) (k := 80) rfl, List.forall_mem_cons.mpr ⟨zne hc_68 (c := 81) (k := 81) rfl, fun _ h => absurd h List.not_mem_nil⟩⟩⟩⟩⟩⟩⟩⟩⟩⟩⟩⟩⟩)) (by decide) ?_
                            refine z_iconst F (0) dX3_run_284 rfl ?_
                            have eq1 := Option.some.inj hf
                            obtain ⟨ee1, eq2⟩ := Prod.mk.inj eq1
                            obtain ⟨ee2, ee3⟩ := Prod.mk.inj eq2
                            subst ee1
                            subst ee2
                            subst ee3
                            exact z_iret F rfl rfl rfl rfl dX3_run_285

def f_Heads_from_L6 (rec : Int32 → Int32 → Int32 → (Nat → Int32) → Int32 → Int32 → Int32 → Int32 → Option (Int32 × Int32 × (Nat → Int32))) (number : Int32) (ownKind : Int32) (v2 : Int32) (v3 : Int32) (v4 : Int32) : Nat → Int32 → (Nat → Int32) → Int32 → Int32 → Option (((Int32 × (Nat → Int32)) ⊕ (Int32 × Int32 × (Nat → Int32))))
  | 0, _, _, _, _ => none
  | fuel + 1, ran, trace, v5, v6 => (if (8 : Int32) ≤ v6 then (some (.inl (ran, trace))) else (if (f_Heads_isKind v5) = 0 then (some (.inl (ran, trace))) else (zg zBo 32 ((v5 * (4 : Int32)) + v2) fun v_2 => (if v_2 = 0 then (zg zAb 8 v5 fun v_3 => (f_Heads_from_L6 rec number ownKind v2 v3 v4 fuel ran trace v_3 (v6 + 1))) else (if v4 ≤ 30 then (zb3 (f_Heads_run rec ran number ownKind trace v_2 v5 v3 v4) fun r_4 ran_5 trace_6 => (some (.inr (r_4, ran_5, trace_6)))) else (some (.inr (0, ran, trace))))))))
def f_Heads_from : Nat → Int32 → Int32 → Int32 → (Nat → Int32) → Int32 → Int32 → Int32 → Int32 → Option (Int32 × Int32 × (Nat → Int32))
  | 0, _, _, _, _, _, _, _, _ => none
  | fuel + 1, ran, number, ownKind, trace, x1, x2, x3, x4 => (zbs2 (f_Heads_from_L6 (fun y0 y1 y2 y3 y4 y5 y6 y7 => f_Heads_from fuel y0 y1 y2 y3 y4 y5 y6 y7) number ownKind x2 x3 x4 FU ran trace x1 0) (fun ran_8 trace_9 => (some (0, ran_8, trace_9))) some)
set_option maxRecDepth 100000 in
set_option maxHeartbeats 4000000 in
theorem l_Heads_from_6 {X : zX} (G : zG) (a_this : Nat) (a_kinds : Nat) (a_trace : Nat) (size : Int32) (number : Int32) (ownKind : Int32) (v2 : Int32) (v3 : Int32) (v4 : Int32) (rec : Int32 → Int32 → Int32 → (Nat → Int32) → Int32 → Int32 → Int32 → Int32 → Option (Int32 × Int32 × (Nat → Int32))) {fr1 lo1 : Nat} (hrec : K_Heads_from (xL X) G a_this a_kinds a_trace fr1 lo1 rec) {fr lo : Nat} (hfr : fr1 + 3 ≤ fr) (hlo : lo1 + 75 ≤ lo) (hfr2 : 1 ≤ fr) (hlo2 : 20 ≤ lo) {v0 : Option Value} {w0 : va_W} (F : zF X G cX3_from RX3 8 (some .int) fr lo v0 w0) (out : ((Int32 × (Nat → Int32)) ⊕ (Int32 × Int32 × (Nat → Int32)))) (hk : ∀ (e_ran : Int32) (e_trace : Nat → Int32), out = .inl (e_ran, e_trace) → Z X G 8 (w_Heads_from G a_this a_kinds a_trace size e_ran number ownKind e_trace) [] 75 []) (hr : ∀ q : Int32 × Int32 × (Nat → Int32), out = .inr q → v0 = some (.int q.1) ∧ w0 = (w_Heads_from G a_this a_kinds a_trace size (q.2.1) number ownKind (q.2.2))) :
    ∀ (fuel : Nat) (ran : Int32) (trace : Nat → Int32) (v5 : Int32) (v6 : Int32), f_Heads_from_L6 rec number ownKind v2 v3 v4 fuel ran trace v5 v6 = some out → Z X G 8 (w_Heads_from G a_this a_kinds a_trace size ran number ownKind trace) [(0, .ref a_this), (2, .int v2), (3, .int v3), (4, .int v4), (5, .int v5), (6, .int v6)] 6 [] := by
  intro fuel
  induction fuel with
  | zero => intro ran trace v5 v6 hf; exact absurd ((f_Heads_from_L6.eq_1 ..).symm.trans hf) (fun h => by cases h)
  | succ fuel ih =>
    intro ran trace v5 v6 hf
    replace hf := (f_Heads_from_L6.eq_2 ..).symm.trans hf
    refine z_iload F 5 dX3_from_6 rfl ?_
    refine z_bipush F (8) dX3_from_8 rfl ?_
    refine z_icmp_ge F 75 dX3_from_10 (by decide) hf (fun hf _ => ?_) (fun hf _ => ?_)
    · exact z_sub [] rfl (hk _ _ (Option.some.inj hf).symm)
    · refine z_iload F 4 dX3_from_13 rfl ?_
      refine z_callSm (rest := []) F (c_Heads_isKind (xL X) G v5 _ rfl) hy_X3_isKind ml_X3_18 hd_X3_isKind ⟨by omega, by omega⟩ rfl [] rfl rfl (w_Heads_from G a_this a_kinds a_trace size ran number ownKind trace) [none, none] rfl (by decide +kernel) rfl rfl (Nat.le_of_ble_eq_true rfl) dX3_from_15 (fun hz_1 => ?_)
      refine z_if_eq F 75 dX3_from_18 (by decide) hf (fun hf _ => ?_) (fun hf _ => ?_)
      · exact z_sub [] rfl (hk _ _ (Option.some.inj hf).symm)
      · refine z_gs2 F (uw51 _ (List.mem_of_getElem? (i := 21) rfl)) dX3_from_21 ?_
        refine z_iload F 4 dX3_from_24 rfl ?_
        refine z_iconst F (4) dX3_from_26 rfl ?_
        refine z_imul F dX3_from_27 ?_
        refine z_iload_n F 1 dX3_from_28 rfl rfl ?_
        refine z_iadd F dX3_from_29 ?_
        refine z_ld2 F hf dX3_from_30 (fun v_2 hf => ?_)
        refine z_istore F [(7, .int v_2), (0, .ref a_this), (2, .int v2), (3, .int v3), (4, .int v4), (5, .int v5), (6, .int v6)] dX3_from_31 (by decide) rfl ?_
        refine z_iload F 0 dX3_from_33 rfl ?_
        refine z_if_eq F 61 dX3_from_35 (by decide) hf (fun hf _ => ?_) (fun hf _ => ?_)
        · refine z_gs1 F (uw51 _ (List.mem_of_getElem? (i := 19) rfl)) dX3_from_61 ?_
          refine z_iload F 5 dX3_from_64 rfl ?_
          refine z_ld1 F hf dX3_from_66 (fun v_3 hf => ?_)
          refine z_istore F [(5, .int v_3), (7, .int v_2), (0, .ref a_this), (2, .int v2), (3, .int v3), (4, .int v4), (6, .int v6)] dX3_from_67 (by decide) rfl ?_
          refine z_iinc F [(6, .int (v6 + 1)), (5, .int v_3), (7, .int v_2), (0, .ref a_this), (2, .int v2), (3, .int v3), (4, .int v4)] dX3_from_69 6 rfl rfl (by decide) rfl ?_
          refine z_goto F 6 dX3_from_72 (by decide) ?_
          exact z_sub [3, 4, 5, 6, 1, 0] rfl (ih ran trace v_3 (v6 + 1) hf)
        · refine z_iload F 4 dX3_from_38 rfl ?_
          refine z_bipush F (30) dX3_from_40 rfl ?_
          refine z_icmp_le F 49 dX3_from_42 (by decide) hf (fun hf _ => ?_) (fun hf _ => ?_)
          · refine z_aload_n F 1 dX3_from_49 rfl rfl ?_
            refine z_iload F 0 dX3_from_50 rfl ?_
            refine z_iload F 5 dX3_from_52 rfl ?_
            refine z_iload_n F 3 dX3_from_54 rfl rfl ?_
            refine z_iload F 4 dX3_from_55 rfl ?_
            obtain ⟨r_4, ran_5, trace_6, hg, hf⟩ := zb3_some hf
            refine z_callVm (rest := []) F 3 (c_Heads_run (xL X) G a_this a_kinds a_trace size ran number ownKind trace v_2 v5 v3 v4 rec hrec r_4 ran_5 trace_6 hg) hy_X3_run ml_X3_52 hd_X3_run ⟨by omega, by omega⟩ rfl [0, 1] rfl rfl 0 rfl rfl (w_Heads_from G a_this a_kinds a_trace size ran_5 number ownKind trace_6) [some 0, some 1] rfl (by decide +kernel) rfl rfl (Nat.le_of_ble_eq_true rfl) dX3_from_57 (fun hz_7 => ?_)
            obtain ⟨e1, e2⟩ := hr _ (Option.some.inj hf).symm
            exact z_iret F rfl rfl e1.symm e2.symm dX3_from_60
          · refine z_iconst F (0) dX3_from_45 rfl ?_
            refine z_goto F 60 dX3_from_46 (by decide) ?_
            obtain ⟨e1, e2⟩ := hr _ (Option.some.inj hf).symm
            exact z_iret F rfl rfl e1.symm e2.symm dX3_from_60

set_option maxRecDepth 100000 in
set_option maxHeartbeats 4000000 in
theorem kn_Heads_from (l : Launch) (G : zG) (a_this : Nat) (a_kinds : Nat) (a_trace : Nat) : ∀ fuel : Nat, K_Heads_from l G a_this a_kinds a_trace (fuel * 4 + 2) (fuel * 102 + 80) (f_Heads_from fuel) := by
  intro fuel
  induction fuel with
  | zero => intro size ran number ownKind trace x1 x2 x3 x4 r_ o_ran o_trace hf; exact absurd ((f_Heads_from.eq_1 ..).symm.trans hf) (fun h => by cases h)
  | succ fuel ih =>
    intro size ran number ownKind trace x1 x2 x3 x4 r_ o_ran o_trace hf
    refine zM.of [(0, .ref a_this), (1, .int x1), (2, .int x2), (3, .int x3), (4, .int x4)] (own := RX3) rfl (by decide +kernel) (Nat.le_of_ble_eq_true rfl) rfl rfl fun X hX F => ?_
    subst hX
    have hrec := ih
    replace hf := (f_Heads_from.eq_2 ..).symm.trans hf
    refine z_iload_n F 1 dX3_from_0 rfl rfl ?_
    refine z_istore F [(5, .int x1), (0, .ref a_this), (1, .int x1), (2, .int x2), (3, .int x3), (4, .int x4)] dX3_from_1 (by decide) rfl ?_
    refine z_iconst F (0) dX3_from_3 rfl ?_
    refine z_istore F [(6, .int 0), (5, .int x1), (0, .ref a_this), (1, .int x1), (2, .int x2), (3, .int x3), (4, .int x4)] dX3_from_4 (by decide) rfl ?_
    obtain ⟨z_10, hg, hf1_11, hf2_12⟩ := zbs2_some hf
    refine z_sub [2, 4, 5, 6, 1, 0] rfl ?_
    refine l_Heads_from_6 G a_this a_kinds a_trace size number ownKind x2 x3 x4 (f_Heads_from fuel) hrec (by omega) (by omega) (by omega) (by omega) F z_10 (fun ran_8 trace_9 e => ?_) (fun q e => ?_) FU ran trace x1 0 hg
    · have hf := hf1_11 _ _ e
      refine z_iconst F (0) dX3_from_75 rfl ?_
      have eq1 := Option.some.inj hf
      obtain ⟨ee1, eq2⟩ := Prod.mk.inj eq1
      obtain ⟨ee2, ee3⟩ := Prod.mk.inj eq2
      subst ee1
      subst ee2
      subst ee3
      exact z_iret F rfl rfl rfl rfl dX3_from_76
    · have hf := hf2_12 _ e
      cases hf
      exact ⟨rfl, rfl⟩

abbrev w_Heads_perform (G : zG) (a_this : Nat) (a_kinds : Nat) (a_trace : Nat) (size : Int32) (ran : Int32) (number : Int32) (ownKind : Int32) (kinds : Nat → Int32) (trace : Nat → Int32) : va_W := [(a_this, cO 3 [.ref a_kinds, .int size, .ref a_trace, .int ran, .int number, .int ownKind]), (a_kinds, cI G 50 kinds), (a_trace, cI G 24 trace)]
def f_Heads_perform (size : Int32) (ran : Int32) (number : Int32) (ownKind : Int32) (kinds : Nat → Int32) (trace : Nat → Int32) (x1 : Int32) (x2 : Int32) (x3 : Int32) : Option (Int32 × Int32 × Int32 × Int32 × (Nat → Int32)) := (if (f_Heads_isHead size x1) = 0 then (some (0, 0, number, ownKind, trace)) else (if x2 < 0 then (some (0, 0, number, ownKind, trace)) else (if x2 < 4 then (zg kinds 50 x1 fun v_2 => (zb3 (f_Heads_own (f_Heads_from 40) 0 x1 v_2 trace x2 x3 0) fun r_3 ran_4 trace_5 => (some (r_3, ran_4, x1, v_2, trace_5)))) else (some (0, 0, number, ownKind, trace)))))
set_option maxRecDepth 100000 in
set_option maxHeartbeats 4000000 in
theorem c_Heads_perform (l : Launch) (G : zG) (a_this : Nat) (a_kinds : Nat) (a_trace : Nat) (size : Int32) (ran : Int32) (number : Int32) (ownKind : Int32) (kinds : Nat → Int32) (trace : Nat → Int32) (x1 : Int32) (x2 : Int32) (x3 : Int32) (r_ : Int32) (o_ran : Int32) (o_number : Int32) (o_ownKind : Int32) (o_trace : Nat → Int32) (hf : f_Heads_perform size ran number ownKind kinds trace x1 x2 x3 = some (r_, o_ran, o_number, o_ownKind, o_trace)) : zM l yX3_perform cX3_perform 4 (some .int) 164 4210 G [.ref a_this, .int x1, .int x2, .int x3] (w_Heads_perform G a_this a_kinds a_trace size ran number ownKind kinds trace) (some (.int r_)) (w_Heads_perform G a_this a_kinds a_trace size o_ran o_number o_ownKind kinds o_trace) := by
  refine zM.of [(0, .ref a_this), (1, .int x1), (2, .int x2), (3, .int x3)] (own := RX3) rfl (by decide +kernel) (Nat.le_of_ble_eq_true rfl) rfl rfl fun X hX F => ?_
  subst hX
  replace hf := (f_Heads_perform.eq_1 ..).symm.trans hf
  refine z_aload_n F 0 dX3_perform_0 rfl rfl ?_
  refine z_iconst F (0) dX3_perform_1 rfl ?_
  refine z_put F 0 3 3 (w_Heads_perform G a_this a_kinds a_trace size 0 number ownKind kinds trace) inlX3 tyX3 tyX3_ok nmX3 rfl rfl (by decide) fl_X3_29 rfl rfl rfl (Nat.le_of_ble_eq_true rfl) rfl dX3_perform_2 ?_
  refine z_aload_n F 0 dX3_perform_5 rfl rfl ?_
  refine z_iload_n F 1 dX3_perform_6 rfl rfl ?_
  refine z_callVm (rest := []) F 3 (c_Heads_isHead (xL X) G a_this a_kinds a_trace size 0 number ownKind x1 _ rfl) hy_X3_isHead ml_X3_32 hd_X3_isHead ⟨by omega, by omega⟩ rfl [0] rfl rfl 0 rfl rfl (w_Heads_perform G a_this a_kinds a_trace size 0 number ownKind kinds trace) [some 0, none, none] rfl (by decide +kernel) rfl rfl (Nat.le_of_ble_eq_true rfl) dX3_perform_7 (fun hz_1 => ?_)
  refine z_if_eq F 22 dX3_perform_10 (by decide) hf (fun hf _ => ?_) (fun hf _ => ?_)
  · refine z_iconst F (0) dX3_perform_22 rfl ?_
    have eq1 := Option.some.inj hf
    obtain ⟨ee1, eq2⟩ := Prod.mk.inj eq1
    obtain ⟨ee2, eq3⟩ := Prod.mk.inj eq2
    obtain ⟨ee3, eq4⟩ := Prod.mk.inj eq3
    obtain ⟨ee4, ee5⟩ := Prod.mk.inj eq4
    subst ee1
    subst ee2
    subst ee3
    subst ee4
    subst ee5
    exact z_iret F rfl rfl rfl rfl dX3_perform_23
  · refine z_iload_n F 2 dX3_perform_13 rfl rfl ?_
    refine z_if_lt F 22 dX3_perform_14 (by decide) hf (fun hf _ => ?_) (fun hf _ => ?_)
    · refine z_iconst F (0) dX3_perform_22 rfl ?_
      have eq1 := Option.some.inj hf
      obtain ⟨ee1, eq2⟩ := Prod.mk.inj eq1
      obtain ⟨ee2, eq3⟩ := Prod.mk.inj eq2
      obtain ⟨ee3, eq4⟩ := Prod.mk.inj eq3
      obtain ⟨ee4, ee5⟩ := Prod.mk.inj eq4
      subst ee1
      subst ee2
      subst ee3
      subst ee4
      subst ee5
      exact z_iret F rfl rfl rfl rfl dX3_perform_23
    · refine z_iload_n F 2 dX3_perform_17 rfl rfl ?_
      refine z_iconst F (4) dX3_perform_18 rfl ?_
      refine z_icmp_lt F 24 dX3_perform_19 (by decide) hf (fun hf _ => ?_) (fun hf _ => ?_)
      · refine z_aload_n F 0 dX3_perform_24 rfl rfl ?_
        refine z_iload_n F 1 dX3_perform_25 rfl rfl ?_
        refine z_put F 0 3 4 (w_Heads_perform G a_this a_kinds a_trace size 0 x1 ownKind kinds trace) inlX3 tyX3 tyX3_ok nmX3 rfl rfl (by decide) fl_X3_35 rfl rfl rfl (Nat.le_of_ble_eq_true rfl) rfl dX3_perform_26 ?_
        refine z_aload_n F 0 dX3_perform_29 rfl rfl ?_
        refine z_aload_n F 0 dX3_perform_30 rfl rfl ?_
        refine z_get F 0 3 0 inlX3 rfl rfl (by decide) fl_X3_11 rfl dX3_perform_31 ?_
        refine z_iload_n F 1 dX3_perform_34 rfl rfl ?_
        refine z_iald F 1 rfl hf dX3_perform_35 (fun v_2 hf => ?_)
        refine z_put F 0 3 5 (w_Heads_perform G a_this a_kinds a_trace size 0 x1 v_2 kinds trace) inlX3 tyX3 tyX3_ok nmX3 rfl rfl (by decide) fl_X3_38 rfl rfl rfl (Nat.le_of_ble_eq_true rfl) rfl dX3_perform_36 ?_
        refine z_aload_n F 0 dX3_perform_39 rfl rfl ?_
        refine z_iload_n F 2 dX3_perform_40 rfl rfl ?_
        refine z_iload_n F 3 dX3_perform_41 rfl rfl ?_
        refine z_iconst F (0) dX3_perform_42 rfl ?_
        obtain ⟨r_3, ran_4, trace_5, hg, hf⟩ := zb3_some hf
        refine z_callVm (rest := []) F 3 (c_Heads_own (xL X) G a_this a_kinds a_trace size 0 x1 v_2 trace x2 x3 0 (f_Heads_from 40) (kn_Heads_from (xL X) G a_this a_kinds a_trace 40) r_3 ran_4 trace_5 hg) hy_X3_own ml_X3_41 hd_X3_own ⟨by omega, by omega⟩ rfl [0, 2] rfl rfl 0 rfl rfl (w_Heads_perform G a_this a_kinds a_trace size ran_4 x1 v_2 kinds trace_5) [some 0, none, some 1] rfl (by decide +kernel) rfl rfl (Nat.le_of_ble_eq_true rfl) dX3_perform_43 (fun hz_6 => ?_)
        have eq1 := Option.some.inj hf
        obtain ⟨ee1, eq2⟩ := Prod.mk.inj eq1
        obtain ⟨ee2, eq3⟩ := Prod.mk.inj eq2
        obtain ⟨ee3, eq4⟩ := Prod.mk.inj eq3
        obtain ⟨ee4, ee5⟩ := Prod.mk.inj eq4
        subst ee1
        subst ee2
        subst ee3
        subst ee4
        subst ee5
        exact z_iret F rfl rfl rfl rfl dX3_perform_46
      · refine z_iconst F (0) dX3_perform_22 rfl ?_
        have eq1 := Option.some.inj hf
        obtain ⟨ee1, eq2⟩ := Prod.mk.inj eq1
        obtain ⟨ee2, eq3⟩ := Prod.mk.inj eq2
        obtain ⟨ee3, eq4⟩ := Prod.mk.inj eq3
        obtain ⟨ee4, ee5⟩ := Prod.mk.inj eq4
        subst ee1
        subst ee2
        subst ee3
        subst ee4
        subst ee5
        exact z_iret F rfl rfl rfl rfl dX3_perform_23

abbrev w_Heads_traced (G : zG) (a_this : Nat) (a_kinds : Nat) (a_trace : Nat) (size : Int32) (ran : Int32) (number : Int32) (ownKind : Int32) (trace : Nat → Int32) : va_W := [(a_this, cO 3 [.ref a_kinds, .int size, .ref a_trace, .int ran, .int number, .int ownKind]), (a_trace, cI G 24 trace)]
def f_Heads_traced (ran : Int32) (trace : Nat → Int32) (x1 : Int32) : Option Int32 := (if x1 < 0 then (some (-1)) else (if ran ≤ x1 then (some (-1)) else (if (24 : Int32) ≤ x1 then (some (-1)) else (zg trace 24 x1 fun v_1 => (some v_1)))))
set_option maxRecDepth 100000 in
set_option maxHeartbeats 4000000 in
theorem c_Heads_traced (l : Launch) (G : zG) (a_this : Nat) (a_kinds : Nat) (a_trace : Nat) (size : Int32) (ran : Int32) (number : Int32) (ownKind : Int32) (trace : Nat → Int32) (x1 : Int32) (r_ : Int32) (hf : f_Heads_traced ran trace x1 = some r_) : zM l yX3_traced cX3_traced 2 (some .int) 0 0 G [.ref a_this, .int x1] (w_Heads_traced G a_this a_kinds a_trace size ran number ownKind trace) (some (.int r_)) (w_Heads_traced G a_this a_kinds a_trace size ran number ownKind trace) := by
  refine zM.of [(0, .ref a_this), (1, .int x1)] (own := RX3) rfl (by decide +kernel) (Nat.le_of_ble_eq_true rfl) rfl rfl fun X hX F => ?_
  subst hX
  replace hf := (f_Heads_traced.eq_1 ..).symm.trans hf
  refine z_iload_n F 1 dX3_traced_0 rfl rfl ?_
  refine z_if_lt F 27 dX3_traced_1 (by decide) hf (fun hf _ => ?_) (fun hf _ => ?_)
  · refine z_iconst F (-1) dX3_traced_27 rfl ?_
    have ee1 := Option.some.inj hf
    subst ee1
    exact z_iret F rfl rfl rfl rfl dX3_traced_28
  · refine z_iload_n F 1 dX3_traced_4 rfl rfl ?_
    refine z_aload_n F 0 dX3_traced_5 rfl rfl ?_
    refine z_get F 0 3 3 inlX3 rfl rfl (by decide) fl_X3_29 rfl dX3_traced_6 ?_
    refine z_icmp_ge F 27 dX3_traced_9 (by decide) hf (fun hf _ => ?_) (fun hf _ => ?_)
    · refine z_iconst F (-1) dX3_traced_27 rfl ?_
      have ee1 := Option.some.inj hf
      subst ee1
      exact z_iret F rfl rfl rfl rfl dX3_traced_28
    · refine z_iload_n F 1 dX3_traced_12 rfl rfl ?_
      refine z_bipush F (24) dX3_traced_13 rfl ?_
      refine z_icmp_ge F 27 dX3_traced_15 (by decide) hf (fun hf _ => ?_) (fun hf _ => ?_)
      · refine z_iconst F (-1) dX3_traced_27 rfl ?_
        have ee1 := Option.some.inj hf
        subst ee1
        exact z_iret F rfl rfl rfl rfl dX3_traced_28
      · refine z_aload_n F 0 dX3_traced_18 rfl rfl ?_
        refine z_get F 0 3 2 inlX3 rfl rfl (by decide) fl_X3_15 rfl dX3_traced_19 ?_
        refine z_iload_n F 1 dX3_traced_22 rfl rfl ?_
        refine z_iald F 1 rfl hf dX3_traced_23 (fun v_1 hf => ?_)
        refine z_goto F 28 dX3_traced_24 (by decide) ?_
        have ee1 := Option.some.inj hf
        subst ee1
        exact z_iret F rfl rfl rfl rfl dX3_traced_28

abbrev w_Heads_kindOf (G : zG) (a_this : Nat) (a_kinds : Nat) (a_trace : Nat) (size : Int32) (ran : Int32) (number : Int32) (ownKind : Int32) (kinds : Nat → Int32) : va_W := [(a_this, cO 3 [.ref a_kinds, .int size, .ref a_trace, .int ran, .int number, .int ownKind]), (a_kinds, cI G 50 kinds)]
def f_Heads_kindOf (size : Int32) (kinds : Nat → Int32) (x1 : Int32) : Option Int32 := (if (f_Heads_isHead size x1) = 0 then (some (-2)) else (zg kinds 50 x1 fun v_2 => (some v_2)))
set_option maxRecDepth 100000 in
set_option maxHeartbeats 4000000 in
theorem c_Heads_kindOf (l : Launch) (G : zG) (a_this : Nat) (a_kinds : Nat) (a_trace : Nat) (size : Int32) (ran : Int32) (number : Int32) (ownKind : Int32) (kinds : Nat → Int32) (x1 : Int32) (r_ : Int32) (hf : f_Heads_kindOf size kinds x1 = some r_) : zM l yX3_kindOf cX3_kindOf 2 (some .int) 1 21 G [.ref a_this, .int x1] (w_Heads_kindOf G a_this a_kinds a_trace size ran number ownKind kinds) (some (.int r_)) (w_Heads_kindOf G a_this a_kinds a_trace size ran number ownKind kinds) := by
  refine zM.of [(0, .ref a_this), (1, .int x1)] (own := RX3) rfl (by decide +kernel) (Nat.le_of_ble_eq_true rfl) rfl rfl fun X hX F => ?_
  subst hX
  replace hf := (f_Heads_kindOf.eq_1 ..).symm.trans hf
  refine z_aload_n F 0 dX3_kindOf_0 rfl rfl ?_
  refine z_iload_n F 1 dX3_kindOf_1 rfl rfl ?_
  refine z_callVm (rest := []) F 3 (c_Heads_isHead (xL X) G a_this a_kinds a_trace size ran number ownKind x1 _ rfl) hy_X3_isHead ml_X3_32 hd_X3_isHead ⟨by omega, by omega⟩ rfl [0] rfl rfl 0 rfl rfl (w_Heads_kindOf G a_this a_kinds a_trace size ran number ownKind kinds) [some 0, none] rfl (by decide +kernel) rfl rfl (Nat.le_of_ble_eq_true rfl) dX3_kindOf_2 (fun hz_1 => ?_)
  refine z_if_eq F 17 dX3_kindOf_5 (by decide) hf (fun hf _ => ?_) (fun hf _ => ?_)
  · refine z_bipush F (-2) dX3_kindOf_17 rfl ?_
    have ee1 := Option.some.inj hf
    subst ee1
    exact z_iret F rfl rfl rfl rfl dX3_kindOf_19
  · refine z_aload_n F 0 dX3_kindOf_8 rfl rfl ?_
    refine z_get F 0 3 0 inlX3 rfl rfl (by decide) fl_X3_11 rfl dX3_kindOf_9 ?_
    refine z_iload_n F 1 dX3_kindOf_12 rfl rfl ?_
    refine z_iald F 1 rfl hf dX3_kindOf_13 (fun v_2 hf => ?_)
    refine z_goto F 19 dX3_kindOf_14 (by decide) ?_
    have ee1 := Option.some.inj hf
    subst ee1
    exact z_iret F rfl rfl rfl rfl dX3_kindOf_19

abbrev w_Heads_isUnder (G : zG) : va_W := []
def f_Heads_isUnder_L4 (v1 : Int32) : Nat → Int32 → Int32 → Option (((Unit) ⊕ (Int32)))
  | 0, _, _ => none
  | fuel + 1, v2, v3 => (if (8 : Int32) ≤ v3 then (some (.inl ())) else (if (f_Heads_isKind v2) = 0 then (some (.inl ())) else (if v2 = v1 then (some (.inr 1)) else (zg zAb 8 v2 fun v_2 => (f_Heads_isUnder_L4 v1 fuel v_2 (v3 + 1))))))
def f_Heads_isUnder (x0 : Int32) (x1 : Int32) : Option Int32 := (zbs0 (f_Heads_isUnder_L4 x1 FU x0 0) ((some 0)) some)
set_option maxRecDepth 100000 in
set_option maxHeartbeats 4000000 in
theorem l_Heads_isUnder_4 {X : zX} (G : zG) (v1 : Int32) {v0 : Option Value} {w0 : va_W} (F : zF X G cX3_isUnder RX3 4 (some .boolean) 1 20 v0 w0) (out : ((Unit) ⊕ (Int32))) (hk : out = .inl () → Z X G 4 (w_Heads_isUnder G) [] 36 []) (hr : ∀ q : Int32, out = .inr q → v0 = some (.int q) ∧ w0 = (w_Heads_isUnder G)) :
    ∀ (fuel : Nat) (v2 : Int32) (v3 : Int32), f_Heads_isUnder_L4 v1 fuel v2 v3 = some out → Z X G 4 (w_Heads_isUnder G) [(1, .int v1), (2, .int v2), (3, .int v3)] 4 [] := by
  intro fuel
  induction fuel with
  | zero => intro v2 v3 hf; exact absurd ((f_Heads_isUnder_L4.eq_1 ..).symm.trans hf) (fun h => by cases h)
  | succ fuel ih =>
    intro v2 v3 hf
    replace hf := (f_Heads_isUnder_L4.eq_2 ..).symm.trans hf
    refine z_iload_n F 2 dX3_isUnder_4 rfl rfl ?_
    refine z_bipush F (8) dX3_isUnder_5 rfl ?_
    refine z_icmp_ge F 36 dX3_isUnder_7 (by decide) hf (fun hf _ => ?_) (fun hf _ => ?_)
    · exact z_sub [] rfl (hk  (Option.some.inj hf).symm)
    · refine z_iload_n F 1 dX3_isUnder_10 rfl rfl ?_
      refine z_callSm (rest := []) F (c_Heads_isKind (xL X) G v2 _ rfl) hy_X3_isKind ml_X3_18 hd_X3_isKind ⟨by omega, by omega⟩ rfl [] rfl rfl (w_Heads_isUnder G) [] rfl (by decide +kernel) rfl rfl (Nat.le_of_ble_eq_true rfl) dX3_isUnder_11 (fun hz_1 => ?_)
      refine z_if_eq F 36 dX3_isUnder_14 (by decide) hf (fun hf _ => ?_) (fun hf _ => ?_)
      · exact z_sub [] rfl (hk  (Option.some.inj hf).symm)
      · refine z_iload_n F 1 dX3_isUnder_17 rfl rfl ?_
        refine z_iload_n F 0 dX3_isUnder_18 rfl rfl ?_
        refine z_icmp_ne F 24 dX3_isUnder_19 (by decide) hf (fun hf _ => ?_) (fun hf _ => ?_)
        · refine z_gs1 F (uw51 _ (List.mem_of_getElem? (i := 19) rfl)) dX3_isUnder_24 ?_
          refine z_iload_n F 1 dX3_isUnder_27 rfl rfl ?_
          refine z_ld1 F hf dX3_isUnder_28 (fun v_2 hf => ?_)
          refine z_istore_n F [(2, .int v_2), (1, .int v1), (3, .int v3)] dX3_isUnder_29 rfl (by decide) rfl ?_
          refine z_iinc F [(3, .int (v3 + 1)), (2, .int v_2), (1, .int v1)] dX3_isUnder_30 2 rfl rfl (by decide) rfl ?_
          refine z_goto F 4 dX3_isUnder_33 (by decide) ?_
          exact z_sub [2, 1, 0] rfl (ih v_2 (v3 + 1) hf)
        · refine z_iconst F (1) dX3_isUnder_22 rfl ?_
          obtain ⟨e1, e2⟩ := hr _ (Option.some.inj hf).symm
          exact z_iret F rfl rfl e1.symm e2.symm dX3_isUnder_23

set_option maxRecDepth 100000 in
set_option maxHeartbeats 4000000 in
theorem c_Heads_isUnder (l : Launch) (G : zG) (x0 : Int32) (x1 : Int32) (r_ : Int32) (hf : f_Heads_isUnder x0 x1 = some r_) : zM l yX3_isUnder cX3_isUnder 4 (some .boolean) 1 20 G [.int x0, .int x1] (w_Heads_isUnder G) (some (.int r_)) (w_Heads_isUnder G) := by
  refine zM.of [(0, .int x0), (1, .int x1)] (own := RX3) rfl (by decide +kernel) (Nat.le_of_ble_eq_true rfl) rfl rfl fun X hX F => ?_
  subst hX
  replace hf := (f_Heads_isUnder.eq_1 ..).symm.trans hf
  refine z_iload_n F 0 dX3_isUnder_0 rfl rfl ?_
  refine z_istore_n F [(2, .int x0), (0, .int x0), (1, .int x1)] dX3_isUnder_1 rfl (by decide) rfl ?_
  refine z_iconst F (0) dX3_isUnder_2 rfl ?_
  refine z_istore_n F [(3, .int 0), (2, .int x0), (0, .int x0), (1, .int x1)] dX3_isUnder_3 rfl (by decide) rfl ?_
  obtain ⟨z_3, hg, hf1_4, hf2_5⟩ := zbs0_some hf
  refine z_sub [3, 1, 0] rfl ?_
  refine l_Heads_isUnder_4 G x1 F z_3 (fun e => ?_) (fun q e => ?_) FU x0 0 hg
  · have hf := hf1_4 e
    refine z_iconst F (0) dX3_isUnder_36 rfl ?_
    have ee1 := Option.some.inj hf
    subst ee1
    exact z_iret F rfl rfl rfl rfl dX3_isUnder_37
  · have hf := hf2_5 _ e
    cases hf
    exact ⟨rfl, rfl⟩

abbrev w_Heads_size (G : zG) (a_this : Nat) (a_kinds : Nat) (a_trace : Nat) (size : Int32) (ran : Int32) (number : Int32) (ownKind : Int32) : va_W := [(a_this, cO 3 [.ref a_kinds, .int size, .ref a_trace, .int ran, .int number, .int ownKind])]
def f_Heads_size (size : Int32) : Int32 := size
set_option maxRecDepth 100000 in
set_option maxHeartbeats 4000000 in
theorem c_Heads_size (l : Launch) (G : zG) (a_this : Nat) (a_kinds : Nat) (a_trace : Nat) (size : Int32) (ran : Int32) (number : Int32) (ownKind : Int32) (r_ : Int32) (hf : f_Heads_size size = r_) : zM l yX3_size cX3_size 1 (some .int) 0 0 G [.ref a_this] (w_Heads_size G a_this a_kinds a_trace size ran number ownKind) (some (.int r_)) (w_Heads_size G a_this a_kinds a_trace size ran number ownKind) := by
  refine zM.of [(0, .ref a_this)] (own := RX3) rfl (by decide +kernel) (Nat.le_of_ble_eq_true rfl) rfl rfl fun X hX F => ?_
  subst hX
  replace hf := (f_Heads_size.eq_1 ..).symm.trans hf
  refine z_aload_n F 0 dX3_size_0 rfl rfl ?_
  refine z_get F 0 3 1 inlX3 rfl rfl (by decide) fl_X3_25 rfl dX3_size_1 ?_
  subst hf
  exact z_iret F rfl rfl rfl rfl dX3_size_4

abbrev w_Heads_ran (G : zG) (a_this : Nat) (a_kinds : Nat) (a_trace : Nat) (size : Int32) (ran : Int32) (number : Int32) (ownKind : Int32) : va_W := [(a_this, cO 3 [.ref a_kinds, .int size, .ref a_trace, .int ran, .int number, .int ownKind])]
def f_Heads_ran (ran : Int32) : Int32 := ran
set_option maxRecDepth 100000 in
set_option maxHeartbeats 4000000 in
theorem c_Heads_ran (l : Launch) (G : zG) (a_this : Nat) (a_kinds : Nat) (a_trace : Nat) (size : Int32) (ran : Int32) (number : Int32) (ownKind : Int32) (r_ : Int32) (hf : f_Heads_ran ran = r_) : zM l yX3_ran cX3_ran 1 (some .int) 0 0 G [.ref a_this] (w_Heads_ran G a_this a_kinds a_trace size ran number ownKind) (some (.int r_)) (w_Heads_ran G a_this a_kinds a_trace size ran number ownKind) := by
  refine zM.of [(0, .ref a_this)] (own := RX3) rfl (by decide +kernel) (Nat.le_of_ble_eq_true rfl) rfl rfl fun X hX F => ?_
  subst hX
  replace hf := (f_Heads_ran.eq_1 ..).symm.trans hf
  refine z_aload_n F 0 dX3_ran_0 rfl rfl ?_
  refine z_get F 0 3 3 inlX3 rfl rfl (by decide) fl_X3_29 rfl dX3_ran_1 ?_
  subst hf
  exact z_iret F rfl rfl rfl rfl dX3_ran_4

