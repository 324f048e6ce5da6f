theorem dW_edit_0 : decode mW_edit.2.1 0 = .ok (.aload_n 3, 1) := by decide +kernel
theorem dW_edit_1 : decode mW_edit.2.1 1 = .ok (.iconst 0, 1) := by decide +kernel
theorem dW_edit_2 : decode mW_edit.2.1 2 = .ok (.aload_n 0, 1) := by decide +kernel
theorem dW_edit_3 : decode mW_edit.2.1 3 = .ok (.iload_n 1, 1) := by decide +kernel
theorem dW_edit_4 : decode mW_edit.2.1 4 = .ok (.iload_n 2, 1) := by decide +kernel
theorem dW_edit_5 : decode mW_edit.2.1 5 = .ok (.invokevirtual 7, 3) := by decide +kernel
theorem dW_edit_8 : decode mW_edit.2.1 8 = .ok (.i2l, 1) := by decide +kernel
theorem dW_edit_9 : decode mW_edit.2.1 9 = .ok (.lastore, 1) := by decide +kernel
theorem dW_edit_10 : decode mW_edit.2.1 10 = .ok (.goto (11), 3) := by decide +kernel
theorem dW_edit_13 : decode mW_edit.2.1 13 = .ok (.astore 4, 2) := by decide +kernel
theorem dW_edit_15 : decode mW_edit.2.1 15 = .ok (.iconst 1, 1) := by decide +kernel
theorem dW_edit_16 : decode mW_edit.2.1 16 = .ok (.ireturn, 1) := by decide +kernel
theorem dW_edit_17 : decode mW_edit.2.1 17 = .ok (.astore 4, 2) := by decide +kernel
theorem dW_edit_19 : decode mW_edit.2.1 19 = .ok (.iconst 2, 1) := by decide +kernel
theorem dW_edit_20 : decode mW_edit.2.1 20 = .ok (.ireturn, 1) := by decide +kernel
theorem dW_edit_21 : decode mW_edit.2.1 21 = .ok (.iconst 0, 1) := by decide +kernel
theorem dW_edit_22 : decode mW_edit.2.1 22 = .ok (.ireturn, 1) := by decide +kernel
theorem dW_token_0 : decode mW_token.2.1 0 = .ok (.aload_n 2, 1) := by decide +kernel
theorem dW_token_1 : decode mW_token.2.1 1 = .ok (.iconst 0, 1) := by decide +kernel
theorem dW_token_2 : decode mW_token.2.1 2 = .ok (.aload_n 0, 1) := by decide +kernel
theorem dW_token_3 : decode mW_token.2.1 3 = .ok (.iload_n 1, 1) := by decide +kernel
theorem dW_token_4 : decode mW_token.2.1 4 = .ok (.invokevirtual 17, 3) := by decide +kernel
theorem dW_token_7 : decode mW_token.2.1 7 = .ok (.i2l, 1) := by decide +kernel
theorem dW_token_8 : decode mW_token.2.1 8 = .ok (.lastore, 1) := by decide +kernel
theorem dW_token_9 : decode mW_token.2.1 9 = .ok (.goto (6), 3) := by decide +kernel
theorem dW_token_12 : decode mW_token.2.1 12 = .ok (.astore_n 3, 1) := by decide +kernel
theorem dW_token_13 : decode mW_token.2.1 13 = .ok (.iconst 1, 1) := by decide +kernel
theorem dW_token_14 : decode mW_token.2.1 14 = .ok (.ireturn, 1) := by decide +kernel
theorem dW_token_15 : decode mW_token.2.1 15 = .ok (.iconst 0, 1) := by decide +kernel
theorem dW_token_16 : decode mW_token.2.1 16 = .ok (.ireturn, 1) := by decide +kernel
theorem dW_begin_0 : decode mW_begin.2.1 0 = .ok (.aload_n 2, 1) := by decide +kernel
theorem dW_begin_1 : decode mW_begin.2.1 1 = .ok (.iconst 0, 1) := by decide +kernel
theorem dW_begin_2 : decode mW_begin.2.1 2 = .ok (.aload_n 0, 1) := by decide +kernel
theorem dW_begin_3 : decode mW_begin.2.1 3 = .ok (.iload_n 1, 1) := by decide +kernel
theorem dW_begin_4 : decode mW_begin.2.1 4 = .ok (.invokevirtual 21, 3) := by decide +kernel
theorem dW_begin_7 : decode mW_begin.2.1 7 = .ok (.i2l, 1) := by decide +kernel
theorem dW_begin_8 : decode mW_begin.2.1 8 = .ok (.lastore, 1) := by decide +kernel
theorem dW_begin_9 : decode mW_begin.2.1 9 = .ok (.goto (6), 3) := by decide +kernel
theorem dW_begin_12 : decode mW_begin.2.1 12 = .ok (.astore_n 3, 1) := by decide +kernel
theorem dW_begin_13 : decode mW_begin.2.1 13 = .ok (.iconst 1, 1) := by decide +kernel
theorem dW_begin_14 : decode mW_begin.2.1 14 = .ok (.ireturn, 1) := by decide +kernel
theorem dW_begin_15 : decode mW_begin.2.1 15 = .ok (.iconst 0, 1) := by decide +kernel
theorem dW_begin_16 : decode mW_begin.2.1 16 = .ok (.ireturn, 1) := by decide +kernel
theorem dW_end_0 : decode mW_end.2.1 0 = .ok (.aload_n 2, 1) := by decide +kernel
theorem dW_end_1 : decode mW_end.2.1 1 = .ok (.iconst 0, 1) := by decide +kernel
theorem dW_end_2 : decode mW_end.2.1 2 = .ok (.aload_n 0, 1) := by decide +kernel
theorem dW_end_3 : decode mW_end.2.1 3 = .ok (.iload_n 1, 1) := by decide +kernel
theorem dW_end_4 : decode mW_end.2.1 4 = .ok (.invokevirtual 24, 3) := by decide +kernel
theorem dW_end_7 : decode mW_end.2.1 7 = .ok (.i2l, 1) := by decide +kernel
theorem dW_end_8 : decode mW_end.2.1 8 = .ok (.lastore, 1) := by decide +kernel
theorem dW_end_9 : decode mW_end.2.1 9 = .ok (.goto (6), 3) := by decide +kernel
theorem dW_end_12 : decode mW_end.2.1 12 = .ok (.astore_n 3, 1) := by decide +kernel
theorem dW_end_13 : decode mW_end.2.1 13 = .ok (.iconst 1, 1) := by decide +kernel
theorem dW_end_14 : decode mW_end.2.1 14 = .ok (.ireturn, 1) := by decide +kernel
theorem dW_end_15 : decode mW_end.2.1 15 = .ok (.iconst 0, 1) := by decide +kernel
theorem dW_end_16 : decode mW_end.2.1 16 = .ok (.ireturn, 1) := by decide +kernel
theorem dW_value_0 : decode mW_value.2.1 0 = .ok (.aload_n 2, 1) := by decide +kernel
theorem dW_value_1 : decode mW_value.2.1 1 = .ok (.iconst 0, 1) := by decide +kernel
theorem dW_value_2 : decode mW_value.2.1 2 = .ok (.aload_n 0, 1) := by decide +kernel
theorem dW_value_3 : decode mW_value.2.1 3 = .ok (.iload_n 1, 1) := by decide +kernel
theorem dW_value_4 : decode mW_value.2.1 4 = .ok (.invokevirtual 27, 3) := by decide +kernel
theorem dW_value_7 : decode mW_value.2.1 7 = .ok (.i2l, 1) := by decide +kernel
theorem dW_value_8 : decode mW_value.2.1 8 = .ok (.lastore, 1) := by decide +kernel
theorem dW_value_9 : decode mW_value.2.1 9 = .ok (.goto (6), 3) := by decide +kernel
theorem dW_value_12 : decode mW_value.2.1 12 = .ok (.astore_n 3, 1) := by decide +kernel
theorem dW_value_13 : decode mW_value.2.1 13 = .ok (.iconst 1, 1) := by decide +kernel
theorem dW_value_14 : decode mW_value.2.1 14 = .ok (.ireturn, 1) := by decide +kernel
theorem dW_value_15 : decode mW_value.2.1 15 = .ok (.iconst 0, 1) := by decide +kernel
theorem dW_value_16 : decode mW_value.2.1 16 = .ok (.ireturn, 1) := by decide +kernel
theorem dW_law_0 : decode mW_law.2.1 0 = .ok (.new 8, 3) := by decide +kernel
theorem dW_law_3 : decode mW_law.2.1 3 = .ok (.dup, 1) := by decide +kernel
theorem dW_law_4 : decode mW_law.2.1 4 = .ok (.invokespecial 30, 3) := by decide +kernel
theorem dW_law_7 : decode mW_law.2.1 7 = .ok (.astore_n 1, 1) := by decide +kernel
theorem dW_law_8 : decode mW_law.2.1 8 = .ok (.new 31, 3) := by decide +kernel
theorem dW_law_11 : decode mW_law.2.1 11 = .ok (.dup, 1) := by decide +kernel
theorem dW_law_12 : decode mW_law.2.1 12 = .ok (.invokespecial 33, 3) := by decide +kernel
theorem dW_law_15 : decode mW_law.2.1 15 = .ok (.astore_n 2, 1) := by decide +kernel
theorem dW_law_16 : decode mW_law.2.1 16 = .ok (.iconst 1, 1) := by decide +kernel
theorem dW_law_17 : decode mW_law.2.1 17 = .ok (.newarray .long, 2) := by decide +kernel
theorem dW_law_19 : decode mW_law.2.1 19 = .ok (.astore_n 3, 1) := by decide +kernel
theorem dW_law_20 : decode mW_law.2.1 20 = .ok (.iconst 0, 1) := by decide +kernel
theorem dW_law_21 : decode mW_law.2.1 21 = .ok (.istore 4, 2) := by decide +kernel
theorem dW_law_23 : decode mW_law.2.1 23 = .ok (.iload 4, 2) := by decide +kernel
theorem dW_law_25 : decode mW_law.2.1 25 = .ok (.aload_n 0, 1) := by decide +kernel
theorem dW_law_26 : decode mW_law.2.1 26 = .ok (.arraylength, 1) := by decide +kernel
theorem dW_law_27 : decode mW_law.2.1 27 = .ok (.iconst 3, 1) := by decide +kernel
theorem dW_law_28 : decode mW_law.2.1 28 = .ok (.isub, 1) := by decide +kernel
theorem dW_law_29 : decode mW_law.2.1 29 = .ok (.if_icmp .gt (590), 3) := by decide +kernel
theorem dW_law_32 : decode mW_law.2.1 32 = .ok (.aload_n 0, 1) := by decide +kernel
theorem dW_law_33 : decode mW_law.2.1 33 = .ok (.iload 4, 2) := by decide +kernel
theorem dW_law_35 : decode mW_law.2.1 35 = .ok (.iaload, 1) := by decide +kernel
theorem dW_law_36 : decode mW_law.2.1 36 = .ok (.bipush (15), 2) := by decide +kernel
theorem dW_law_38 : decode mW_law.2.1 38 = .ok (.iand, 1) := by decide +kernel
theorem dW_law_39 : decode mW_law.2.1 39 = .ok (.tableswitch (574) (0) (15) #[77, 104, 117, 185, 198, 223, 236, 292, 305, 318, 331, 356, 381, 437, 493, 518], 77) := by decide +kernel
theorem dW_law_116 : decode mW_law.2.1 116 = .ok (.aload_n 1, 1) := by decide +kernel
theorem dW_law_117 : decode mW_law.2.1 117 = .ok (.aload_n 0, 1) := by decide +kernel
theorem dW_law_118 : decode mW_law.2.1 118 = .ok (.iload 4, 2) := by decide +kernel
theorem dW_law_120 : decode mW_law.2.1 120 = .ok (.iconst 1, 1) := by decide +kernel
theorem dW_law_121 : decode mW_law.2.1 121 = .ok (.iadd, 1) := by decide +kernel
theorem dW_law_122 : decode mW_law.2.1 122 = .ok (.iaload, 1) := by decide +kernel
theorem dW_law_123 : decode mW_law.2.1 123 = .ok (.i2c, 1) := by decide +kernel
theorem dW_law_124 : decode mW_law.2.1 124 = .ok (.invokevirtual 34, 3) := by decide +kernel
theorem dW_law_127 : decode mW_law.2.1 127 = .ok (.aload_n 2, 1) := by decide +kernel
theorem dW_law_128 : decode mW_law.2.1 128 = .ok (.aload_n 0, 1) := by decide +kernel
theorem dW_law_129 : decode mW_law.2.1 129 = .ok (.iload 4, 2) := by decide +kernel
theorem dW_law_131 : decode mW_law.2.1 131 = .ok (.iconst 1, 1) := by decide +kernel
theorem dW_law_132 : decode mW_law.2.1 132 = .ok (.iadd, 1) := by decide +kernel
theorem dW_law_133 : decode mW_law.2.1 133 = .ok (.iaload, 1) := by decide +kernel
theorem dW_law_134 : decode mW_law.2.1 134 = .ok (.i2c, 1) := by decide +kernel
theorem dW_law_135 : decode mW_law.2.1 135 = .ok (.invokevirtual 38, 3) := by decide +kernel
theorem dW_law_138 : decode mW_law.2.1 138 = .ok (.if_icmp .eq (475), 3) := by decide +kernel
theorem dW_law_141 : decode mW_law.2.1 141 = .ok (.iconst 0, 1) := by decide +kernel
theorem dW_law_142 : decode mW_law.2.1 142 = .ok (.ireturn, 1) := by decide +kernel
theorem dW_law_143 : decode mW_law.2.1 143 = .ok (.aload_n 1, 1) := by decide +kernel
theorem dW_law_144 : decode mW_law.2.1 144 = .ok (.invokevirtual 39, 3) := by decide +kernel
theorem dW_law_147 : decode mW_law.2.1 147 = .ok (.aload_n 2, 1) := by decide +kernel
theorem dW_law_148 : decode mW_law.2.1 148 = .ok (.invokevirtual 43, 3) := by decide +kernel
theorem dW_law_151 : decode mW_law.2.1 151 = .ok (.if_icmp .eq (462), 3) := by decide +kernel
theorem dW_law_154 : decode mW_law.2.1 154 = .ok (.iconst 0, 1) := by decide +kernel
theorem dW_law_155 : decode mW_law.2.1 155 = .ok (.ireturn, 1) := by decide +kernel
theorem dW_law_156 : decode mW_law.2.1 156 = .ok (.aload_n 1, 1) := by decide +kernel
theorem dW_law_157 : decode mW_law.2.1 157 = .ok (.aload_n 0, 1) := by decide +kernel
theorem dW_law_158 : decode mW_law.2.1 158 = .ok (.iload 4, 2) := by decide +kernel
theorem dW_law_160 : decode mW_law.2.1 160 = .ok (.iconst 1, 1) := by decide +kernel
theorem dW_law_161 : decode mW_law.2.1 161 = .ok (.iadd, 1) := by decide +kernel
theorem dW_law_162 : decode mW_law.2.1 162 = .ok (.iaload, 1) := by decide +kernel
theorem dW_law_163 : decode mW_law.2.1 163 = .ok (.aload_n 0, 1) := by decide +kernel
theorem dW_law_164 : decode mW_law.2.1 164 = .ok (.iload 4, 2) := by decide +kernel
theorem dW_law_166 : decode mW_law.2.1 166 = .ok (.iconst 2, 1) := by decide +kernel
theorem dW_law_167 : decode mW_law.2.1 167 = .ok (.iadd, 1) := by decide +kernel
theorem dW_law_168 : decode mW_law.2.1 168 = .ok (.iaload, 1) := by decide +kernel
theorem dW_law_169 : decode mW_law.2.1 169 = .ok (.aload_n 3, 1) := by decide +kernel
theorem dW_law_170 : decode mW_law.2.1 170 = .ok (.invokestatic 44, 3) := by decide +kernel
theorem dW_law_173 : decode mW_law.2.1 173 = .ok (.istore 5, 2) := by decide +kernel
theorem dW_law_175 : decode mW_law.2.1 175 = .ok (.aload_n 2, 1) := by decide +kernel
theorem dW_law_176 : decode mW_law.2.1 176 = .ok (.aload_n 0, 1) := by decide +kernel
theorem dW_law_177 : decode mW_law.2.1 177 = .ok (.iload 4, 2) := by decide +kernel
theorem dW_law_179 : decode mW_law.2.1 179 = .ok (.iconst 1, 1) := by decide +kernel
theorem dW_law_180 : decode mW_law.2.1 180 = .ok (.iadd, 1) := by decide +kernel
theorem dW_law_181 : decode mW_law.2.1 181 = .ok (.iaload, 1) := by decide +kernel
theorem dW_law_182 : decode mW_law.2.1 182 = .ok (.aload_n 0, 1) := by decide +kernel
theorem dW_law_183 : decode mW_law.2.1 183 = .ok (.iload 4, 2) := by decide +kernel
theorem dW_law_185 : decode mW_law.2.1 185 = .ok (.iconst 2, 1) := by decide +kernel
theorem dW_law_186 : decode mW_law.2.1 186 = .ok (.iadd, 1) := by decide +kernel
theorem dW_law_187 : decode mW_law.2.1 187 = .ok (.iaload, 1) := by decide +kernel
theorem dW_law_188 : decode mW_law.2.1 188 = .ok (.invokevirtual 49, 3) := by decide +kernel
theorem dW_law_191 : decode mW_law.2.1 191 = .ok (.istore 6, 2) := by decide +kernel
theorem dW_law_193 : decode mW_law.2.1 193 = .ok (.aload_n 2, 1) := by decide +kernel
theorem dW_law_194 : decode mW_law.2.1 194 = .ok (.invokevirtual 50, 3) := by decide +kernel
theorem dW_law_197 : decode mW_law.2.1 197 = .ok (.iload 5, 2) := by decide +kernel
theorem dW_law_199 : decode mW_law.2.1 199 = .ok (.if_icmp .eq (5), 3) := by decide +kernel
theorem dW_law_202 : decode mW_law.2.1 202 = .ok (.iconst 0, 1) := by decide +kernel
theorem dW_law_203 : decode mW_law.2.1 203 = .ok (.ireturn, 1) := by decide +kernel
theorem dW_law_204 : decode mW_law.2.1 204 = .ok (.iload 5, 2) := by decide +kernel
theorem dW_law_206 : decode mW_law.2.1 206 = .ok (.ifCond .ne (15), 3) := by decide +kernel
theorem dW_law_209 : decode mW_law.2.1 209 = .ok (.aload_n 3, 1) := by decide +kernel
theorem dW_law_210 : decode mW_law.2.1 210 = .ok (.iconst 0, 1) := by decide +kernel
theorem dW_law_211 : decode mW_law.2.1 211 = .ok (.laload, 1) := by decide +kernel
theorem dW_law_212 : decode mW_law.2.1 212 = .ok (.iload 6, 2) := by decide +kernel
theorem dW_law_214 : decode mW_law.2.1 214 = .ok (.i2l, 1) := by decide +kernel
theorem dW_law_215 : decode mW_law.2.1 215 = .ok (.lcmp, 1) := by decide +kernel
theorem dW_law_216 : decode mW_law.2.1 216 = .ok (.ifCond .eq (5), 3) := by decide +kernel
theorem dW_law_219 : decode mW_law.2.1 219 = .ok (.iconst 0, 1) := by decide +kernel
theorem dW_law_220 : decode mW_law.2.1 220 = .ok (.ireturn, 1) := by decide +kernel
theorem dW_law_221 : decode mW_law.2.1 221 = .ok (.goto (392), 3) := by decide +kernel
theorem dW_law_224 : decode mW_law.2.1 224 = .ok (.aload_n 1, 1) := by decide +kernel
theorem dW_law_225 : decode mW_law.2.1 225 = .ok (.invokevirtual 53, 3) := by decide +kernel
theorem dW_law_228 : decode mW_law.2.1 228 = .ok (.aload_n 2, 1) := by decide +kernel
theorem dW_law_229 : decode mW_law.2.1 229 = .ok (.invokevirtual 56, 3) := by decide +kernel
theorem dW_law_232 : decode mW_law.2.1 232 = .ok (.if_icmp .eq (381), 3) := by decide +kernel
theorem dW_law_235 : decode mW_law.2.1 235 = .ok (.iconst 0, 1) := by decide +kernel
theorem dW_law_236 : decode mW_law.2.1 236 = .ok (.ireturn, 1) := by decide +kernel
theorem dW_law_237 : decode mW_law.2.1 237 = .ok (.aload_n 1, 1) := by decide +kernel
theorem dW_law_238 : decode mW_law.2.1 238 = .ok (.aload_n 0, 1) := by decide +kernel
theorem dW_law_239 : decode mW_law.2.1 239 = .ok (.iload 4, 2) := by decide +kernel
theorem dW_law_241 : decode mW_law.2.1 241 = .ok (.iconst 1, 1) := by decide +kernel
theorem dW_law_242 : decode mW_law.2.1 242 = .ok (.iadd, 1) := by decide +kernel
theorem dW_law_243 : decode mW_law.2.1 243 = .ok (.iaload, 1) := by decide +kernel
theorem dW_law_244 : decode mW_law.2.1 244 = .ok (.invokevirtual 57, 3) := by decide +kernel
theorem dW_law_247 : decode mW_law.2.1 247 = .ok (.aload_n 2, 1) := by decide +kernel
theorem dW_law_248 : decode mW_law.2.1 248 = .ok (.aload_n 0, 1) := by decide +kernel
theorem dW_law_249 : decode mW_law.2.1 249 = .ok (.iload 4, 2) := by decide +kernel
theorem dW_law_251 : decode mW_law.2.1 251 = .ok (.iconst 1, 1) := by decide +kernel
theorem dW_law_252 : decode mW_law.2.1 252 = .ok (.iadd, 1) := by decide +kernel
theorem dW_law_253 : decode mW_law.2.1 253 = .ok (.iaload, 1) := by decide +kernel
theorem dW_law_254 : decode mW_law.2.1 254 = .ok (.invokevirtual 61, 3) := by decide +kernel
theorem dW_law_257 : decode mW_law.2.1 257 = .ok (.if_icmp .eq (356), 3) := by decide +kernel
theorem dW_law_260 : decode mW_law.2.1 260 = .ok (.iconst 0, 1) := by decide +kernel
theorem dW_law_261 : decode mW_law.2.1 261 = .ok (.ireturn, 1) := by decide +kernel
theorem dW_law_262 : decode mW_law.2.1 262 = .ok (.aload_n 1, 1) := by decide +kernel
theorem dW_law_263 : decode mW_law.2.1 263 = .ok (.invokevirtual 62, 3) := by decide +kernel
theorem dW_law_266 : decode mW_law.2.1 266 = .ok (.aload_n 2, 1) := by decide +kernel
theorem dW_law_267 : decode mW_law.2.1 267 = .ok (.invokevirtual 65, 3) := by decide +kernel
theorem dW_law_270 : decode mW_law.2.1 270 = .ok (.if_icmp .eq (343), 3) := by decide +kernel
theorem dW_law_273 : decode mW_law.2.1 273 = .ok (.iconst 0, 1) := by decide +kernel
theorem dW_law_274 : decode mW_law.2.1 274 = .ok (.ireturn, 1) := by decide +kernel
theorem dW_law_275 : decode mW_law.2.1 275 = .ok (.aload_n 1, 1) := by decide +kernel
theorem dW_law_276 : decode mW_law.2.1 276 = .ok (.aload_n 0, 1) := by decide +kernel
theorem dW_law_277 : decode mW_law.2.1 277 = .ok (.iload 4, 2) := by decide +kernel
theorem dW_law_279 : decode mW_law.2.1 279 = .ok (.iconst 1, 1) := by decide +kernel
theorem dW_law_280 : decode mW_law.2.1 280 = .ok (.iadd, 1) := by decide +kernel
theorem dW_law_281 : decode mW_law.2.1 281 = .ok (.iaload, 1) := by decide +kernel
theorem dW_law_282 : decode mW_law.2.1 282 = .ok (.aload_n 3, 1) := by decide +kernel
theorem dW_law_283 : decode mW_law.2.1 283 = .ok (.invokestatic 66, 3) := by decide +kernel
theorem dW_law_286 : decode mW_law.2.1 286 = .ok (.istore 5, 2) := by decide +kernel
theorem dW_law_288 : decode mW_law.2.1 288 = .ok (.aload_n 2, 1) := by decide +kernel
theorem dW_law_289 : decode mW_law.2.1 289 = .ok (.aload_n 0, 1) := by decide +kernel
theorem dW_law_290 : decode mW_law.2.1 290 = .ok (.iload 4, 2) := by decide +kernel
theorem dW_law_292 : decode mW_law.2.1 292 = .ok (.iconst 1, 1) := by decide +kernel
theorem dW_law_293 : decode mW_law.2.1 293 = .ok (.iadd, 1) := by decide +kernel
theorem dW_law_294 : decode mW_law.2.1 294 = .ok (.iaload, 1) := by decide +kernel
theorem dW_law_295 : decode mW_law.2.1 295 = .ok (.invokevirtual 69, 3) := by decide +kernel
theorem dW_law_298 : decode mW_law.2.1 298 = .ok (.istore 6, 2) := by decide +kernel
theorem dW_law_300 : decode mW_law.2.1 300 = .ok (.aload_n 2, 1) := by decide +kernel
theorem dW_law_301 : decode mW_law.2.1 301 = .ok (.invokevirtual 50, 3) := by decide +kernel
theorem dW_law_304 : decode mW_law.2.1 304 = .ok (.iload 5, 2) := by decide +kernel
theorem dW_law_306 : decode mW_law.2.1 306 = .ok (.if_icmp .eq (5), 3) := by decide +kernel
theorem dW_law_309 : decode mW_law.2.1 309 = .ok (.iconst 0, 1) := by decide +kernel
theorem dW_law_310 : decode mW_law.2.1 310 = .ok (.ireturn, 1) := by decide +kernel
theorem dW_law_311 : decode mW_law.2.1 311 = .ok (.iload 5, 2) := by decide +kernel
theorem dW_law_313 : decode mW_law.2.1 313 = .ok (.ifCond .ne (15), 3) := by decide +kernel
theorem dW_law_316 : decode mW_law.2.1 316 = .ok (.aload_n 3, 1) := by decide +kernel
theorem dW_law_317 : decode mW_law.2.1 317 = .ok (.iconst 0, 1) := by decide +kernel
theorem dW_law_318 : decode mW_law.2.1 318 = .ok (.laload, 1) := by decide +kernel
theorem dW_law_319 : decode mW_law.2.1 319 = .ok (.iload 6, 2) := by decide +kernel
theorem dW_law_321 : decode mW_law.2.1 321 = .ok (.i2l, 1) := by decide +kernel
theorem dW_law_322 : decode mW_law.2.1 322 = .ok (.lcmp, 1) := by decide +kernel
theorem dW_law_323 : decode mW_law.2.1 323 = .ok (.ifCond .eq (5), 3) := by decide +kernel
theorem dW_law_326 : decode mW_law.2.1 326 = .ok (.iconst 0, 1) := by decide +kernel
theorem dW_law_327 : decode mW_law.2.1 327 = .ok (.ireturn, 1) := by decide +kernel
theorem dW_law_328 : decode mW_law.2.1 328 = .ok (.goto (285), 3) := by decide +kernel
theorem dW_law_331 : decode mW_law.2.1 331 = .ok (.aload_n 1, 1) := by decide +kernel
theorem dW_law_332 : decode mW_law.2.1 332 = .ok (.invokevirtual 70, 3) := by decide +kernel
theorem dW_law_335 : decode mW_law.2.1 335 = .ok (.aload_n 2, 1) := by decide +kernel
theorem dW_law_336 : decode mW_law.2.1 336 = .ok (.invokevirtual 73, 3) := by decide +kernel
theorem dW_law_339 : decode mW_law.2.1 339 = .ok (.if_icmp .eq (274), 3) := by decide +kernel
theorem dW_law_342 : decode mW_law.2.1 342 = .ok (.iconst 0, 1) := by decide +kernel
theorem dW_law_343 : decode mW_law.2.1 343 = .ok (.ireturn, 1) := by decide +kernel
theorem dW_law_344 : decode mW_law.2.1 344 = .ok (.aload_n 1, 1) := by decide +kernel
theorem dW_law_345 : decode mW_law.2.1 345 = .ok (.invokevirtual 74, 3) := by decide +kernel
theorem dW_law_348 : decode mW_law.2.1 348 = .ok (.aload_n 2, 1) := by decide +kernel
theorem dW_law_349 : decode mW_law.2.1 349 = .ok (.invokevirtual 77, 3) := by decide +kernel
theorem dW_law_352 : decode mW_law.2.1 352 = .ok (.if_icmp .eq (261), 3) := by decide +kernel
theorem dW_law_355 : decode mW_law.2.1 355 = .ok (.iconst 0, 1) := by decide +kernel
theorem dW_law_356 : decode mW_law.2.1 356 = .ok (.ireturn, 1) := by decide +kernel
theorem dW_law_357 : decode mW_law.2.1 357 = .ok (.aload_n 1, 1) := by decide +kernel
theorem dW_law_358 : decode mW_law.2.1 358 = .ok (.invokevirtual 78, 3) := by decide +kernel
theorem dW_law_361 : decode mW_law.2.1 361 = .ok (.aload_n 2, 1) := by decide +kernel
theorem dW_law_362 : decode mW_law.2.1 362 = .ok (.invokevirtual 81, 3) := by decide +kernel
theorem dW_law_365 : decode mW_law.2.1 365 = .ok (.if_icmp .eq (248), 3) := by decide +kernel
theorem dW_law_368 : decode mW_law.2.1 368 = .ok (.iconst 0, 1) := by decide +kernel
theorem dW_law_369 : decode mW_law.2.1 369 = .ok (.ireturn, 1) := by decide +kernel
theorem dW_law_370 : decode mW_law.2.1 370 = .ok (.aload_n 1, 1) := by decide +kernel
theorem dW_law_371 : decode mW_law.2.1 371 = .ok (.aload_n 0, 1) := by decide +kernel
theorem dW_law_372 : decode mW_law.2.1 372 = .ok (.iload 4, 2) := by decide +kernel
theorem dW_law_374 : decode mW_law.2.1 374 = .ok (.iconst 1, 1) := by decide +kernel
theorem dW_law_375 : decode mW_law.2.1 375 = .ok (.iadd, 1) := by decide +kernel
theorem dW_law_376 : decode mW_law.2.1 376 = .ok (.iaload, 1) := by decide +kernel
theorem dW_law_377 : decode mW_law.2.1 377 = .ok (.invokevirtual 82, 3) := by decide +kernel
theorem dW_law_380 : decode mW_law.2.1 380 = .ok (.aload_n 2, 1) := by decide +kernel
theorem dW_law_381 : decode mW_law.2.1 381 = .ok (.aload_n 0, 1) := by decide +kernel
theorem dW_law_382 : decode mW_law.2.1 382 = .ok (.iload 4, 2) := by decide +kernel
theorem dW_law_384 : decode mW_law.2.1 384 = .ok (.iconst 1, 1) := by decide +kernel
theorem dW_law_385 : decode mW_law.2.1 385 = .ok (.iadd, 1) := by decide +kernel
theorem dW_law_386 : decode mW_law.2.1 386 = .ok (.iaload, 1) := by decide +kernel
theorem dW_law_387 : decode mW_law.2.1 387 = .ok (.invokevirtual 85, 3) := by decide +kernel
theorem dW_law_390 : decode mW_law.2.1 390 = .ok (.if_icmp .eq (223), 3) := by decide +kernel
theorem dW_law_393 : decode mW_law.2.1 393 = .ok (.iconst 0, 1) := by decide +kernel
theorem dW_law_394 : decode mW_law.2.1 394 = .ok (.ireturn, 1) := by decide +kernel
theorem dW_law_395 : decode mW_law.2.1 395 = .ok (.aload_n 1, 1) := by decide +kernel
theorem dW_law_396 : decode mW_law.2.1 396 = .ok (.aload_n 0, 1) := by decide +kernel
theorem dW_law_397 : decode mW_law.2.1 397 = .ok (.iload 4, 2) := by decide +kernel
theorem dW_law_399 : decode mW_law.2.1 399 = .ok (.iconst 1, 1) := by decide +kernel
theorem dW_law_400 : decode mW_law.2.1 400 = .ok (.iadd, 1) := by decide +kernel
theorem dW_law_401 : decode mW_law.2.1 401 = .ok (.iaload, 1) := by decide +kernel
theorem dW_law_402 : decode mW_law.2.1 402 = .ok (.invokevirtual 86, 3) := by decide +kernel
theorem dW_law_405 : decode mW_law.2.1 405 = .ok (.aload_n 2, 1) := by decide +kernel
theorem dW_law_406 : decode mW_law.2.1 406 = .ok (.aload_n 0, 1) := by decide +kernel
theorem dW_law_407 : decode mW_law.2.1 407 = .ok (.iload 4, 2) := by decide +kernel
theorem dW_law_409 : decode mW_law.2.1 409 = .ok (.iconst 1, 1) := by decide +kernel
theorem dW_law_410 : decode mW_law.2.1 410 = .ok (.iadd, 1) := by decide +kernel
theorem dW_law_411 : decode mW_law.2.1 411 = .ok (.iaload, 1) := by decide +kernel
theorem dW_law_412 : decode mW_law.2.1 412 = .ok (.invokevirtual 89, 3) := by decide +kernel
theorem dW_law_415 : decode mW_law.2.1 415 = .ok (.if_icmp .eq (198), 3) := by decide +kernel
theorem dW_law_418 : decode mW_law.2.1 418 = .ok (.iconst 0, 1) := by decide +kernel
theorem dW_law_419 : decode mW_law.2.1 419 = .ok (.ireturn, 1) := by decide +kernel
theorem dW_law_420 : decode mW_law.2.1 420 = .ok (.aload_n 1, 1) := by decide +kernel
theorem dW_law_421 : decode mW_law.2.1 421 = .ok (.aload_n 0, 1) := by decide +kernel
theorem dW_law_422 : decode mW_law.2.1 422 = .ok (.iload 4, 2) := by decide +kernel
theorem dW_law_424 : decode mW_law.2.1 424 = .ok (.iconst 1, 1) := by decide +kernel
theorem dW_law_425 : decode mW_law.2.1 425 = .ok (.iadd, 1) := by decide +kernel
theorem dW_law_426 : decode mW_law.2.1 426 = .ok (.iaload, 1) := by decide +kernel
theorem dW_law_427 : decode mW_law.2.1 427 = .ok (.aload_n 3, 1) := by decide +kernel
theorem dW_law_428 : decode mW_law.2.1 428 = .ok (.invokestatic 90, 3) := by decide +kernel
theorem dW_law_431 : decode mW_law.2.1 431 = .ok (.istore 5, 2) := by decide +kernel
theorem dW_law_433 : decode mW_law.2.1 433 = .ok (.aload_n 2, 1) := by decide +kernel
theorem dW_law_434 : decode mW_law.2.1 434 = .ok (.aload_n 0, 1) := by decide +kernel
theorem dW_law_435 : decode mW_law.2.1 435 = .ok (.iload 4, 2) := by decide +kernel
theorem dW_law_437 : decode mW_law.2.1 437 = .ok (.iconst 1, 1) := by decide +kernel
theorem dW_law_438 : decode mW_law.2.1 438 = .ok (.iadd, 1) := by decide +kernel
theorem dW_law_439 : decode mW_law.2.1 439 = .ok (.iaload, 1) := by decide +kernel
theorem dW_law_440 : decode mW_law.2.1 440 = .ok (.invokevirtual 92, 3) := by decide +kernel
theorem dW_law_443 : decode mW_law.2.1 443 = .ok (.istore 6, 2) := by decide +kernel
theorem dW_law_445 : decode mW_law.2.1 445 = .ok (.aload_n 2, 1) := by decide +kernel
theorem dW_law_446 : decode mW_law.2.1 446 = .ok (.invokevirtual 50, 3) := by decide +kernel
theorem dW_law_449 : decode mW_law.2.1 449 = .ok (.iload 5, 2) := by decide +kernel
theorem dW_law_451 : decode mW_law.2.1 451 = .ok (.if_icmp .eq (5), 3) := by decide +kernel
theorem dW_law_454 : decode mW_law.2.1 454 = .ok (.iconst 0, 1) := by decide +kernel
theorem dW_law_455 : decode mW_law.2.1 455 = .ok (.ireturn, 1) := by decide +kernel
theorem dW_law_456 : decode mW_law.2.1 456 = .ok (.iload 5, 2) := by decide +kernel
theorem dW_law_458 : decode mW_law.2.1 458 = .ok (.ifCond .ne (15), 3) := by decide +kernel
theorem dW_law_461 : decode mW_law.2.1 461 = .ok (.aload_n 3, 1) := by decide +kernel
theorem dW_law_462 : decode mW_law.2.1 462 = .ok (.iconst 0, 1) := by decide +kernel
theorem dW_law_463 : decode mW_law.2.1 463 = .ok (.laload, 1) := by decide +kernel
theorem dW_law_464 : decode mW_law.2.1 464 = .ok (.iload 6, 2) := by decide +kernel
theorem dW_law_466 : decode mW_law.2.1 466 = .ok (.i2l, 1) := by decide +kernel
theorem dW_law_467 : decode mW_law.2.1 467 = .ok (.lcmp, 1) := by decide +kernel
theorem dW_law_468 : decode mW_law.2.1 468 = .ok (.ifCond .eq (5), 3) := by decide +kernel
theorem dW_law_471 : decode mW_law.2.1 471 = .ok (.iconst 0, 1) := by decide +kernel
theorem dW_law_472 : decode mW_law.2.1 472 = .ok (.ireturn, 1) := by decide +kernel
theorem dW_law_473 : decode mW_law.2.1 473 = .ok (.goto (140), 3) := by decide +kernel
theorem dW_law_476 : decode mW_law.2.1 476 = .ok (.aload_n 1, 1) := by decide +kernel
theorem dW_law_477 : decode mW_law.2.1 477 = .ok (.aload_n 0, 1) := by decide +kernel
theorem dW_law_478 : decode mW_law.2.1 478 = .ok (.iload 4, 2) := by decide +kernel
theorem dW_law_480 : decode mW_law.2.1 480 = .ok (.iconst 1, 1) := by decide +kernel
theorem dW_law_481 : decode mW_law.2.1 481 = .ok (.iadd, 1) := by decide +kernel
theorem dW_law_482 : decode mW_law.2.1 482 = .ok (.iaload, 1) := by decide +kernel
theorem dW_law_483 : decode mW_law.2.1 483 = .ok (.aload_n 3, 1) := by decide +kernel
theorem dW_law_484 : decode mW_law.2.1 484 = .ok (.invokestatic 93, 3) := by decide +kernel
theorem dW_law_487 : decode mW_law.2.1 487 = .ok (.istore 5, 2) := by decide +kernel
theorem dW_law_489 : decode mW_law.2.1 489 = .ok (.aload_n 2, 1) := by decide +kernel
theorem dW_law_490 : decode mW_law.2.1 490 = .ok (.aload_n 0, 1) := by decide +kernel
theorem dW_law_491 : decode mW_law.2.1 491 = .ok (.iload 4, 2) := by decide +kernel
theorem dW_law_493 : decode mW_law.2.1 493 = .ok (.iconst 1, 1) := by decide +kernel
theorem dW_law_494 : decode mW_law.2.1 494 = .ok (.iadd, 1) := by decide +kernel
theorem dW_law_495 : decode mW_law.2.1 495 = .ok (.iaload, 1) := by decide +kernel
theorem dW_law_496 : decode mW_law.2.1 496 = .ok (.invokevirtual 95, 3) := by decide +kernel
theorem dW_law_499 : decode mW_law.2.1 499 = .ok (.istore 6, 2) := by decide +kernel
theorem dW_law_501 : decode mW_law.2.1 501 = .ok (.aload_n 2, 1) := by decide +kernel
theorem dW_law_502 : decode mW_law.2.1 502 = .ok (.invokevirtual 50, 3) := by decide +kernel
theorem dW_law_505 : decode mW_law.2.1 505 = .ok (.iload 5, 2) := by decide +kernel
theorem dW_law_507 : decode mW_law.2.1 507 = .ok (.if_icmp .eq (5), 3) := by decide +kernel
theorem dW_law_510 : decode mW_law.2.1 510 = .ok (.iconst 0, 1) := by decide +kernel
theorem dW_law_511 : decode mW_law.2.1 511 = .ok (.ireturn, 1) := by decide +kernel
theorem dW_law_512 : decode mW_law.2.1 512 = .ok (.iload 5, 2) := by decide +kernel
theorem dW_law_514 : decode mW_law.2.1 514 = .ok (.ifCond .ne (15), 3) := by decide +kernel
theorem dW_law_517 : decode mW_law.2.1 517 = .ok (.aload_n 3, 1) := by decide +kernel
theorem dW_law_518 : decode mW_law.2.1 518 = .ok (.iconst 0, 1) := by decide +kernel
theorem dW_law_519 : decode mW_law.2.1 519 = .ok (.laload, 1) := by decide +kernel
theorem dW_law_520 : decode mW_law.2.1 520 = .ok (.iload 6, 2) := by decide +kernel
theorem dW_law_522 : decode mW_law.2.1 522 = .ok (.i2l, 1) := by decide +kernel
theorem dW_law_523 : decode mW_law.2.1 523 = .ok (.lcmp, 1) := by decide +kernel
theorem dW_law_524 : decode mW_law.2.1 524 = .ok (.ifCond .eq (5), 3) := by decide +kernel
theorem dW_law_527 : decode mW_law.2.1 527 = .ok (.iconst 0, 1) := by decide +kernel
theorem dW_law_528 : decode mW_law.2.1 528 = .ok (.ireturn, 1) := by decide +kernel
theorem dW_law_529 : decode mW_law.2.1 529 = .ok (.goto (84), 3) := by decide +kernel
theorem dW_law_532 : decode mW_law.2.1 532 = .ok (.aload_n 1, 1) := by decide +kernel
theorem dW_law_533 : decode mW_law.2.1 533 = .ok (.aload_n 0, 1) := by decide +kernel
theorem dW_law_534 : decode mW_law.2.1 534 = .ok (.iload 4, 2) := by decide +kernel
theorem dW_law_536 : decode mW_law.2.1 536 = .ok (.iconst 1, 1) := by decide +kernel
theorem dW_law_537 : decode mW_law.2.1 537 = .ok (.iadd, 1) := by decide +kernel
theorem dW_law_538 : decode mW_law.2.1 538 = .ok (.iaload, 1) := by decide +kernel
theorem dW_law_539 : decode mW_law.2.1 539 = .ok (.invokevirtual 96, 3) := by decide +kernel
theorem dW_law_542 : decode mW_law.2.1 542 = .ok (.aload_n 2, 1) := by decide +kernel
theorem dW_law_543 : decode mW_law.2.1 543 = .ok (.aload_n 0, 1) := by decide +kernel
theorem dW_law_544 : decode mW_law.2.1 544 = .ok (.iload 4, 2) := by decide +kernel
theorem dW_law_546 : decode mW_law.2.1 546 = .ok (.iconst 1, 1) := by decide +kernel
theorem dW_law_547 : decode mW_law.2.1 547 = .ok (.iadd, 1) := by decide +kernel
theorem dW_law_548 : decode mW_law.2.1 548 = .ok (.iaload, 1) := by decide +kernel
theorem dW_law_549 : decode mW_law.2.1 549 = .ok (.invokevirtual 99, 3) := by decide +kernel
theorem dW_law_552 : decode mW_law.2.1 552 = .ok (.if_icmp .eq (61), 3) := by decide +kernel
theorem dW_law_555 : decode mW_law.2.1 555 = .ok (.iconst 0, 1) := by decide +kernel
theorem dW_law_556 : decode mW_law.2.1 556 = .ok (.ireturn, 1) := by decide +kernel
theorem dW_law_557 : decode mW_law.2.1 557 = .ok (.aload_n 1, 1) := by decide +kernel
theorem dW_law_558 : decode mW_law.2.1 558 = .ok (.aload_n 0, 1) := by decide +kernel
theorem dW_law_559 : decode mW_law.2.1 559 = .ok (.iload 4, 2) := by decide +kernel
theorem dW_law_561 : decode mW_law.2.1 561 = .ok (.iconst 1, 1) := by decide +kernel
theorem dW_law_562 : decode mW_law.2.1 562 = .ok (.iadd, 1) := by decide +kernel
theorem dW_law_563 : decode mW_law.2.1 563 = .ok (.iaload, 1) := by decide +kernel
theorem dW_law_564 : decode mW_law.2.1 564 = .ok (.aload_n 3, 1) := by decide +kernel
theorem dW_law_565 : decode mW_law.2.1 565 = .ok (.invokestatic 100, 3) := by decide +kernel
theorem dW_law_568 : decode mW_law.2.1 568 = .ok (.istore 5, 2) := by decide +kernel
theorem dW_law_570 : decode mW_law.2.1 570 = .ok (.aload_n 2, 1) := by decide +kernel
theorem dW_law_571 : decode mW_law.2.1 571 = .ok (.aload_n 0, 1) := by decide +kernel
theorem dW_law_572 : decode mW_law.2.1 572 = .ok (.iload 4, 2) := by decide +kernel
theorem dW_law_574 : decode mW_law.2.1 574 = .ok (.iconst 1, 1) := by decide +kernel
theorem dW_law_575 : decode mW_law.2.1 575 = .ok (.iadd, 1) := by decide +kernel
theorem dW_law_576 : decode mW_law.2.1 576 = .ok (.iaload, 1) := by decide +kernel
theorem dW_law_577 : decode mW_law.2.1 577 = .ok (.invokevirtual 102, 3) := by decide +kernel
theorem dW_law_580 : decode mW_law.2.1 580 = .ok (.istore 6, 2) := by decide +kernel
theorem dW_law_582 : decode mW_law.2.1 582 = .ok (.aload_n 2, 1) := by decide +kernel
theorem dW_law_583 : decode mW_law.2.1 583 = .ok (.invokevirtual 50, 3) := by decide +kernel
theorem dW_law_586 : decode mW_law.2.1 586 = .ok (.iload 5, 2) := by decide +kernel
theorem dW_law_588 : decode mW_law.2.1 588 = .ok (.if_icmp .eq (5), 3) := by decide +kernel
theorem dW_law_591 : decode mW_law.2.1 591 = .ok (.iconst 0, 1) := by decide +kernel
theorem dW_law_592 : decode mW_law.2.1 592 = .ok (.ireturn, 1) := by decide +kernel
theorem dW_law_593 : decode mW_law.2.1 593 = .ok (.iload 5, 2) := by decide +kernel
theorem dW_law_595 : decode mW_law.2.1 595 = .ok (.ifCond .ne (15), 3) := by decide +kernel
theorem dW_law_598 : decode mW_law.2.1 598 = .ok (.aload_n 3, 1) := by decide +kernel
theorem dW_law_599 : decode mW_law.2.1 599 = .ok (.iconst 0, 1) := by decide +kernel
theorem dW_law_600 : decode mW_law.2.1 600 = .ok (.laload, 1) := by decide +kernel
theorem dW_law_601 : decode mW_law.2.1 601 = .ok (.iload 6, 2) := by decide +kernel
theorem dW_law_603 : decode mW_law.2.1 603 = .ok (.i2l, 1) := by decide +kernel
theorem dW_law_604 : decode mW_law.2.1 604 = .ok (.lcmp, 1) := by decide +kernel
theorem dW_law_605 : decode mW_law.2.1 605 = .ok (.ifCond .eq (5), 3) := by decide +kernel
theorem dW_law_608 : decode mW_law.2.1 608 = .ok (.iconst 0, 1) := by decide +kernel
theorem dW_law_609 : decode mW_law.2.1 609 = .ok (.ireturn, 1) := by decide +kernel
theorem dW_law_610 : decode mW_law.2.1 610 = .ok (.goto (3), 3) := by decide +kernel
theorem dW_law_613 : decode mW_law.2.1 613 = .ok (.iinc 4 (3), 3) := by decide +kernel
theorem dW_law_616 : decode mW_law.2.1 616 = .ok (.goto (-593), 3) := by decide +kernel
theorem dW_law_619 : decode mW_law.2.1 619 = .ok (.iconst 1, 1) := by decide +kernel
theorem dW_law_620 : decode mW_law.2.1 620 = .ok (.ireturn, 1) := by decide +kernel
