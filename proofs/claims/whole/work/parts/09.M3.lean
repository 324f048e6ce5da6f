theorem dM_valueOf_108 : decode mM_valueOf.2.1 108 = .ok (.invokevirtual 153, 3) := by decide +kernel
theorem dM_valueOf_111 : decode mM_valueOf.2.1 111 = .ok (.invokevirtual 204, 3) := by decide +kernel
theorem dM_valueOf_114 : decode mM_valueOf.2.1 114 = .ok (.istore 6, 2) := by decide +kernel
theorem dM_valueOf_116 : decode mM_valueOf.2.1 116 = .ok (.aload_n 0, 1) := by decide +kernel
theorem dM_valueOf_117 : decode mM_valueOf.2.1 117 = .ok (.iload 6, 2) := by decide +kernel
theorem dM_valueOf_119 : decode mM_valueOf.2.1 119 = .ok (.invokevirtual 208, 3) := by decide +kernel
theorem dM_valueOf_122 : decode mM_valueOf.2.1 122 = .ok (.iconst 0, 1) := by decide +kernel
theorem dM_valueOf_123 : decode mM_valueOf.2.1 123 = .ok (.istore 4, 2) := by decide +kernel
theorem dM_valueOf_125 : decode mM_valueOf.2.1 125 = .ok (.goto (150), 3) := by decide +kernel
theorem dM_valueOf_128 : decode mM_valueOf.2.1 128 = .ok (.aload_n 0, 1) := by decide +kernel
theorem dM_valueOf_129 : decode mM_valueOf.2.1 129 = .ok (.iload 5, 2) := by decide +kernel
theorem dM_valueOf_131 : decode mM_valueOf.2.1 131 = .ok (.bipush (45), 2) := by decide +kernel
theorem dM_valueOf_133 : decode mM_valueOf.2.1 133 = .ok (.invokevirtual 153, 3) := by decide +kernel
theorem dM_valueOf_136 : decode mM_valueOf.2.1 136 = .ok (.ifCond .eq (24), 3) := by decide +kernel
theorem dM_valueOf_139 : decode mM_valueOf.2.1 139 = .ok (.iload 4, 2) := by decide +kernel
theorem dM_valueOf_141 : decode mM_valueOf.2.1 141 = .ok (.ifCond .eq (19), 3) := by decide +kernel
theorem dM_valueOf_144 : decode mM_valueOf.2.1 144 = .ok (.aload_n 0, 1) := by decide +kernel
theorem dM_valueOf_145 : decode mM_valueOf.2.1 145 = .ok (.getfield 88, 3) := by decide +kernel
theorem dM_valueOf_148 : decode mM_valueOf.2.1 148 = .ok (.aload_n 0, 1) := by decide +kernel
theorem dM_valueOf_149 : decode mM_valueOf.2.1 149 = .ok (.getfield 191, 3) := by decide +kernel
theorem dM_valueOf_152 : decode mM_valueOf.2.1 152 = .ok (.dup2, 1) := by decide +kernel
theorem dM_valueOf_153 : decode mM_valueOf.2.1 153 = .ok (.iaload, 1) := by decide +kernel
theorem dM_valueOf_154 : decode mM_valueOf.2.1 154 = .ok (.iconst 1, 1) := by decide +kernel
theorem dM_valueOf_155 : decode mM_valueOf.2.1 155 = .ok (.iadd, 1) := by decide +kernel
theorem dM_valueOf_156 : decode mM_valueOf.2.1 156 = .ok (.iastore, 1) := by decide +kernel
theorem dM_valueOf_157 : decode mM_valueOf.2.1 157 = .ok (.goto (118), 3) := by decide +kernel
theorem dM_valueOf_160 : decode mM_valueOf.2.1 160 = .ok (.aload_n 0, 1) := by decide +kernel
theorem dM_valueOf_161 : decode mM_valueOf.2.1 161 = .ok (.getfield 23, 3) := by decide +kernel
theorem dM_valueOf_164 : decode mM_valueOf.2.1 164 = .ok (.iload 5, 2) := by decide +kernel
theorem dM_valueOf_166 : decode mM_valueOf.2.1 166 = .ok (.iaload, 1) := by decide +kernel
theorem dM_valueOf_167 : decode mM_valueOf.2.1 167 = .ok (.iconst 3, 1) := by decide +kernel
theorem dM_valueOf_168 : decode mM_valueOf.2.1 168 = .ok (.if_icmp .ne (15), 3) := by decide +kernel
theorem dM_valueOf_171 : decode mM_valueOf.2.1 171 = .ok (.aload_n 0, 1) := by decide +kernel
theorem dM_valueOf_172 : decode mM_valueOf.2.1 172 = .ok (.iload 5, 2) := by decide +kernel
theorem dM_valueOf_174 : decode mM_valueOf.2.1 174 = .ok (.invokevirtual 212, 3) := by decide +kernel
theorem dM_valueOf_177 : decode mM_valueOf.2.1 177 = .ok (.iconst 1, 1) := by decide +kernel
theorem dM_valueOf_178 : decode mM_valueOf.2.1 178 = .ok (.istore 4, 2) := by decide +kernel
theorem dM_valueOf_180 : decode mM_valueOf.2.1 180 = .ok (.goto (95), 3) := by decide +kernel
theorem dM_valueOf_183 : decode mM_valueOf.2.1 183 = .ok (.aload_n 0, 1) := by decide +kernel
theorem dM_valueOf_184 : decode mM_valueOf.2.1 184 = .ok (.getfield 23, 3) := by decide +kernel
theorem dM_valueOf_187 : decode mM_valueOf.2.1 187 = .ok (.iload 5, 2) := by decide +kernel
theorem dM_valueOf_189 : decode mM_valueOf.2.1 189 = .ok (.iaload, 1) := by decide +kernel
theorem dM_valueOf_190 : decode mM_valueOf.2.1 190 = .ok (.ifCond .ne (20), 3) := by decide +kernel
theorem dM_valueOf_193 : decode mM_valueOf.2.1 193 = .ok (.aload_n 0, 1) := by decide +kernel
theorem dM_valueOf_194 : decode mM_valueOf.2.1 194 = .ok (.iload 5, 2) := by decide +kernel
theorem dM_valueOf_196 : decode mM_valueOf.2.1 196 = .ok (.iconst 1, 1) := by decide +kernel
theorem dM_valueOf_197 : decode mM_valueOf.2.1 197 = .ok (.iadd, 1) := by decide +kernel
theorem dM_valueOf_198 : decode mM_valueOf.2.1 198 = .ok (.bipush (40), 2) := by decide +kernel
theorem dM_valueOf_200 : decode mM_valueOf.2.1 200 = .ok (.invokevirtual 153, 3) := by decide +kernel
theorem dM_valueOf_203 : decode mM_valueOf.2.1 203 = .ok (.ifCond .eq (7), 3) := by decide +kernel
theorem dM_valueOf_206 : decode mM_valueOf.2.1 206 = .ok (.iconst 1, 1) := by decide +kernel
theorem dM_valueOf_207 : decode mM_valueOf.2.1 207 = .ok (.goto (4), 3) := by decide +kernel
theorem dM_valueOf_210 : decode mM_valueOf.2.1 210 = .ok (.iconst 0, 1) := by decide +kernel
theorem dM_valueOf_211 : decode mM_valueOf.2.1 211 = .ok (.istore 6, 2) := by decide +kernel
theorem dM_valueOf_213 : decode mM_valueOf.2.1 213 = .ok (.iload 6, 2) := by decide +kernel
theorem dM_valueOf_215 : decode mM_valueOf.2.1 215 = .ok (.ifCond .ne (57), 3) := by decide +kernel
theorem dM_valueOf_218 : decode mM_valueOf.2.1 218 = .ok (.aload_n 0, 1) := by decide +kernel
theorem dM_valueOf_219 : decode mM_valueOf.2.1 219 = .ok (.aload_n 0, 1) := by decide +kernel
theorem dM_valueOf_220 : decode mM_valueOf.2.1 220 = .ok (.getfield 23, 3) := by decide +kernel
theorem dM_valueOf_223 : decode mM_valueOf.2.1 223 = .ok (.iload 5, 2) := by decide +kernel
theorem dM_valueOf_225 : decode mM_valueOf.2.1 225 = .ok (.iaload, 1) := by decide +kernel
theorem dM_valueOf_226 : decode mM_valueOf.2.1 226 = .ok (.iconst 1, 1) := by decide +kernel
theorem dM_valueOf_227 : decode mM_valueOf.2.1 227 = .ok (.if_icmp .ne (12), 3) := by decide +kernel
theorem dM_valueOf_230 : decode mM_valueOf.2.1 230 = .ok (.aload_n 0, 1) := by decide +kernel
theorem dM_valueOf_231 : decode mM_valueOf.2.1 231 = .ok (.iload 5, 2) := by decide +kernel
theorem dM_valueOf_233 : decode mM_valueOf.2.1 233 = .ok (.invokevirtual 215, 3) := by decide +kernel
theorem dM_valueOf_236 : decode mM_valueOf.2.1 236 = .ok (.goto (33), 3) := by decide +kernel
theorem dM_valueOf_239 : decode mM_valueOf.2.1 239 = .ok (.aload_n 0, 1) := by decide +kernel
theorem dM_valueOf_240 : decode mM_valueOf.2.1 240 = .ok (.getfield 23, 3) := by decide +kernel
theorem dM_valueOf_243 : decode mM_valueOf.2.1 243 = .ok (.iload 5, 2) := by decide +kernel
theorem dM_valueOf_245 : decode mM_valueOf.2.1 245 = .ok (.iaload, 1) := by decide +kernel
theorem dM_valueOf_246 : decode mM_valueOf.2.1 246 = .ok (.iconst 2, 1) := by decide +kernel
theorem dM_valueOf_247 : decode mM_valueOf.2.1 247 = .ok (.if_icmp .ne (15), 3) := by decide +kernel
theorem dM_valueOf_250 : decode mM_valueOf.2.1 250 = .ok (.aload_n 0, 1) := by decide +kernel
theorem dM_valueOf_251 : decode mM_valueOf.2.1 251 = .ok (.getfield 20, 3) := by decide +kernel
theorem dM_valueOf_254 : decode mM_valueOf.2.1 254 = .ok (.iload 5, 2) := by decide +kernel
theorem dM_valueOf_256 : decode mM_valueOf.2.1 256 = .ok (.iaload, 1) := by decide +kernel
theorem dM_valueOf_257 : decode mM_valueOf.2.1 257 = .ok (.iconst 2, 1) := by decide +kernel
theorem dM_valueOf_258 : decode mM_valueOf.2.1 258 = .ok (.isub, 1) := by decide +kernel
theorem dM_valueOf_259 : decode mM_valueOf.2.1 259 = .ok (.goto (10), 3) := by decide +kernel
theorem dM_valueOf_262 : decode mM_valueOf.2.1 262 = .ok (.aload_n 0, 1) := by decide +kernel
theorem dM_valueOf_263 : decode mM_valueOf.2.1 263 = .ok (.iload_n 1, 1) := by decide +kernel
theorem dM_valueOf_264 : decode mM_valueOf.2.1 264 = .ok (.iload 5, 2) := by decide +kernel
theorem dM_valueOf_266 : decode mM_valueOf.2.1 266 = .ok (.invokevirtual 218, 3) := by decide +kernel
theorem dM_valueOf_269 : decode mM_valueOf.2.1 269 = .ok (.invokevirtual 208, 3) := by decide +kernel
theorem dM_valueOf_272 : decode mM_valueOf.2.1 272 = .ok (.iconst 0, 1) := by decide +kernel
theorem dM_valueOf_273 : decode mM_valueOf.2.1 273 = .ok (.istore 4, 2) := by decide +kernel
theorem dM_valueOf_275 : decode mM_valueOf.2.1 275 = .ok (.iinc 5 (1), 3) := by decide +kernel
theorem dM_valueOf_278 : decode mM_valueOf.2.1 278 = .ok (.goto (-261), 3) := by decide +kernel
theorem dM_valueOf_281 : decode mM_valueOf.2.1 281 = .ok (.aload_n 0, 1) := by decide +kernel
theorem dM_valueOf_282 : decode mM_valueOf.2.1 282 = .ok (.invokevirtual 194, 3) := by decide +kernel
theorem dM_valueOf_285 : decode mM_valueOf.2.1 285 = .ok (.ireturn, 1) := by decide +kernel
theorem dM_countInside_0 : decode mM_countInside.2.1 0 = .ok (.iconst 0, 1) := by decide +kernel
theorem dM_countInside_1 : decode mM_countInside.2.1 1 = .ok (.istore_n 2, 1) := by decide +kernel
theorem dM_countInside_2 : decode mM_countInside.2.1 2 = .ok (.iload_n 1, 1) := by decide +kernel
theorem dM_countInside_3 : decode mM_countInside.2.1 3 = .ok (.iconst 1, 1) := by decide +kernel
theorem dM_countInside_4 : decode mM_countInside.2.1 4 = .ok (.iadd, 1) := by decide +kernel
theorem dM_countInside_5 : decode mM_countInside.2.1 5 = .ok (.istore_n 3, 1) := by decide +kernel
theorem dM_countInside_6 : decode mM_countInside.2.1 6 = .ok (.iload_n 3, 1) := by decide +kernel
theorem dM_countInside_7 : decode mM_countInside.2.1 7 = .ok (.aload_n 0, 1) := by decide +kernel
theorem dM_countInside_8 : decode mM_countInside.2.1 8 = .ok (.getfield 146, 3) := by decide +kernel
theorem dM_countInside_11 : decode mM_countInside.2.1 11 = .ok (.if_icmp .ge (49), 3) := by decide +kernel
theorem dM_countInside_14 : decode mM_countInside.2.1 14 = .ok (.aload_n 0, 1) := by decide +kernel
theorem dM_countInside_15 : decode mM_countInside.2.1 15 = .ok (.getfield 38, 3) := by decide +kernel
theorem dM_countInside_18 : decode mM_countInside.2.1 18 = .ok (.iload_n 3, 1) := by decide +kernel
theorem dM_countInside_19 : decode mM_countInside.2.1 19 = .ok (.iaload, 1) := by decide +kernel
theorem dM_countInside_20 : decode mM_countInside.2.1 20 = .ok (.aload_n 0, 1) := by decide +kernel
theorem dM_countInside_21 : decode mM_countInside.2.1 21 = .ok (.getfield 41, 3) := by decide +kernel
theorem dM_countInside_24 : decode mM_countInside.2.1 24 = .ok (.iload_n 1, 1) := by decide +kernel
theorem dM_countInside_25 : decode mM_countInside.2.1 25 = .ok (.iaload, 1) := by decide +kernel
theorem dM_countInside_26 : decode mM_countInside.2.1 26 = .ok (.if_icmp .ge (26), 3) := by decide +kernel
theorem dM_countInside_29 : decode mM_countInside.2.1 29 = .ok (.aload_n 0, 1) := by decide +kernel
theorem dM_countInside_30 : decode mM_countInside.2.1 30 = .ok (.getfield 44, 3) := by decide +kernel
theorem dM_countInside_33 : decode mM_countInside.2.1 33 = .ok (.iload_n 3, 1) := by decide +kernel
theorem dM_countInside_34 : decode mM_countInside.2.1 34 = .ok (.iaload, 1) := by decide +kernel
theorem dM_countInside_35 : decode mM_countInside.2.1 35 = .ok (.aload_n 0, 1) := by decide +kernel
theorem dM_countInside_36 : decode mM_countInside.2.1 36 = .ok (.getfield 44, 3) := by decide +kernel
theorem dM_countInside_39 : decode mM_countInside.2.1 39 = .ok (.iload_n 1, 1) := by decide +kernel
theorem dM_countInside_40 : decode mM_countInside.2.1 40 = .ok (.iaload, 1) := by decide +kernel
theorem dM_countInside_41 : decode mM_countInside.2.1 41 = .ok (.iconst 1, 1) := by decide +kernel
theorem dM_countInside_42 : decode mM_countInside.2.1 42 = .ok (.iadd, 1) := by decide +kernel
theorem dM_countInside_43 : decode mM_countInside.2.1 43 = .ok (.if_icmp .ne (9), 3) := by decide +kernel
theorem dM_countInside_46 : decode mM_countInside.2.1 46 = .ok (.iload_n 2, 1) := by decide +kernel
theorem dM_countInside_47 : decode mM_countInside.2.1 47 = .ok (.iconst 1, 1) := by decide +kernel
theorem dM_countInside_48 : decode mM_countInside.2.1 48 = .ok (.iadd, 1) := by decide +kernel
theorem dM_countInside_49 : decode mM_countInside.2.1 49 = .ok (.goto (4), 3) := by decide +kernel
theorem dM_countInside_52 : decode mM_countInside.2.1 52 = .ok (.iload_n 2, 1) := by decide +kernel
theorem dM_countInside_53 : decode mM_countInside.2.1 53 = .ok (.istore_n 2, 1) := by decide +kernel
theorem dM_countInside_54 : decode mM_countInside.2.1 54 = .ok (.iinc 3 (1), 3) := by decide +kernel
theorem dM_countInside_57 : decode mM_countInside.2.1 57 = .ok (.goto (-51), 3) := by decide +kernel
theorem dM_countInside_60 : decode mM_countInside.2.1 60 = .ok (.iload_n 2, 1) := by decide +kernel
theorem dM_countInside_61 : decode mM_countInside.2.1 61 = .ok (.ireturn, 1) := by decide +kernel
theorem dM_findValues_0 : decode mM_findValues.2.1 0 = .ok (.iconst 0, 1) := by decide +kernel
theorem dM_findValues_1 : decode mM_findValues.2.1 1 = .ok (.istore_n 1, 1) := by decide +kernel
theorem dM_findValues_2 : decode mM_findValues.2.1 2 = .ok (.iload_n 1, 1) := by decide +kernel
theorem dM_findValues_3 : decode mM_findValues.2.1 3 = .ok (.aload_n 0, 1) := by decide +kernel
theorem dM_findValues_4 : decode mM_findValues.2.1 4 = .ok (.getfield 146, 3) := by decide +kernel
theorem dM_findValues_7 : decode mM_findValues.2.1 7 = .ok (.if_icmp .ge (75), 3) := by decide +kernel
theorem dM_findValues_10 : decode mM_findValues.2.1 10 = .ok (.aload_n 0, 1) := by decide +kernel
theorem dM_findValues_11 : decode mM_findValues.2.1 11 = .ok (.getfield 47, 3) := by decide +kernel
theorem dM_findValues_14 : decode mM_findValues.2.1 14 = .ok (.iload_n 1, 1) := by decide +kernel
theorem dM_findValues_15 : decode mM_findValues.2.1 15 = .ok (.baload, 1) := by decide +kernel
theorem dM_findValues_16 : decode mM_findValues.2.1 16 = .ok (.ifCond .eq (17), 3) := by decide +kernel
theorem dM_findValues_19 : decode mM_findValues.2.1 19 = .ok (.aload_n 0, 1) := by decide +kernel
theorem dM_findValues_20 : decode mM_findValues.2.1 20 = .ok (.getfield 57, 3) := by decide +kernel
theorem dM_findValues_23 : decode mM_findValues.2.1 23 = .ok (.iload_n 1, 1) := by decide +kernel
theorem dM_findValues_24 : decode mM_findValues.2.1 24 = .ok (.aload_n 0, 1) := by decide +kernel
theorem dM_findValues_25 : decode mM_findValues.2.1 25 = .ok (.iload_n 1, 1) := by decide +kernel
theorem dM_findValues_26 : decode mM_findValues.2.1 26 = .ok (.invokevirtual 222, 3) := by decide +kernel
theorem dM_findValues_29 : decode mM_findValues.2.1 29 = .ok (.iastore, 1) := by decide +kernel
theorem dM_findValues_30 : decode mM_findValues.2.1 30 = .ok (.goto (46), 3) := by decide +kernel
theorem dM_findValues_33 : decode mM_findValues.2.1 33 = .ok (.aload_n 0, 1) := by decide +kernel
theorem dM_findValues_34 : decode mM_findValues.2.1 34 = .ok (.getfield 57, 3) := by decide +kernel
theorem dM_findValues_37 : decode mM_findValues.2.1 37 = .ok (.iload_n 1, 1) := by decide +kernel
theorem dM_findValues_38 : decode mM_findValues.2.1 38 = .ok (.aload_n 0, 1) := by decide +kernel
theorem dM_findValues_39 : decode mM_findValues.2.1 39 = .ok (.iload_n 1, 1) := by decide +kernel
theorem dM_findValues_40 : decode mM_findValues.2.1 40 = .ok (.aload_n 0, 1) := by decide +kernel
theorem dM_findValues_41 : decode mM_findValues.2.1 41 = .ok (.getfield 51, 3) := by decide +kernel
theorem dM_findValues_44 : decode mM_findValues.2.1 44 = .ok (.iload_n 1, 1) := by decide +kernel
theorem dM_findValues_45 : decode mM_findValues.2.1 45 = .ok (.baload, 1) := by decide +kernel
theorem dM_findValues_46 : decode mM_findValues.2.1 46 = .ok (.ifCond .eq (14), 3) := by decide +kernel
theorem dM_findValues_49 : decode mM_findValues.2.1 49 = .ok (.aload_n 0, 1) := by decide +kernel
theorem dM_findValues_50 : decode mM_findValues.2.1 50 = .ok (.getfield 38, 3) := by decide +kernel
theorem dM_findValues_53 : decode mM_findValues.2.1 53 = .ok (.iload_n 1, 1) := by decide +kernel
theorem dM_findValues_54 : decode mM_findValues.2.1 54 = .ok (.iaload, 1) := by decide +kernel
theorem dM_findValues_55 : decode mM_findValues.2.1 55 = .ok (.iconst 2, 1) := by decide +kernel
theorem dM_findValues_56 : decode mM_findValues.2.1 56 = .ok (.iadd, 1) := by decide +kernel
theorem dM_findValues_57 : decode mM_findValues.2.1 57 = .ok (.goto (9), 3) := by decide +kernel
theorem dM_findValues_60 : decode mM_findValues.2.1 60 = .ok (.aload_n 0, 1) := by decide +kernel
theorem dM_findValues_61 : decode mM_findValues.2.1 61 = .ok (.getfield 38, 3) := by decide +kernel
theorem dM_findValues_64 : decode mM_findValues.2.1 64 = .ok (.iload_n 1, 1) := by decide +kernel
theorem dM_findValues_65 : decode mM_findValues.2.1 65 = .ok (.iaload, 1) := by decide +kernel
theorem dM_findValues_66 : decode mM_findValues.2.1 66 = .ok (.aload_n 0, 1) := by decide +kernel
theorem dM_findValues_67 : decode mM_findValues.2.1 67 = .ok (.getfield 41, 3) := by decide +kernel
theorem dM_findValues_70 : decode mM_findValues.2.1 70 = .ok (.iload_n 1, 1) := by decide +kernel
theorem dM_findValues_71 : decode mM_findValues.2.1 71 = .ok (.iaload, 1) := by decide +kernel
theorem dM_findValues_72 : decode mM_findValues.2.1 72 = .ok (.invokevirtual 225, 3) := by decide +kernel
theorem dM_findValues_75 : decode mM_findValues.2.1 75 = .ok (.iastore, 1) := by decide +kernel
theorem dM_findValues_76 : decode mM_findValues.2.1 76 = .ok (.iinc 1 (1), 3) := by decide +kernel
theorem dM_findValues_79 : decode mM_findValues.2.1 79 = .ok (.goto (-77), 3) := by decide +kernel
theorem dM_findValues_82 : decode mM_findValues.2.1 82 = .ok (.return_, 1) := by decide +kernel
theorem dM_keepOld_0 : decode mM_keepOld.2.1 0 = .ok (.aload_n 0, 1) := by decide +kernel
theorem dM_keepOld_1 : decode mM_keepOld.2.1 1 = .ok (.aload_n 0, 1) := by decide +kernel
theorem dM_keepOld_2 : decode mM_keepOld.2.1 2 = .ok (.getfield 106, 3) := by decide +kernel
theorem dM_keepOld_5 : decode mM_keepOld.2.1 5 = .ok (.putfield 229, 3) := by decide +kernel
theorem dM_keepOld_8 : decode mM_keepOld.2.1 8 = .ok (.iconst 0, 1) := by decide +kernel
theorem dM_keepOld_9 : decode mM_keepOld.2.1 9 = .ok (.istore_n 1, 1) := by decide +kernel
theorem dM_keepOld_10 : decode mM_keepOld.2.1 10 = .ok (.iload_n 1, 1) := by decide +kernel
theorem dM_keepOld_11 : decode mM_keepOld.2.1 11 = .ok (.aload_n 0, 1) := by decide +kernel
theorem dM_keepOld_12 : decode mM_keepOld.2.1 12 = .ok (.getfield 106, 3) := by decide +kernel
theorem dM_keepOld_15 : decode mM_keepOld.2.1 15 = .ok (.if_icmp .ge (45), 3) := by decide +kernel
theorem dM_keepOld_18 : decode mM_keepOld.2.1 18 = .ok (.aload_n 0, 1) := by decide +kernel
theorem dM_keepOld_19 : decode mM_keepOld.2.1 19 = .ok (.getfield 26, 3) := by decide +kernel
theorem dM_keepOld_22 : decode mM_keepOld.2.1 22 = .ok (.iload_n 1, 1) := by decide +kernel
theorem dM_keepOld_23 : decode mM_keepOld.2.1 23 = .ok (.aload_n 0, 1) := by decide +kernel
theorem dM_keepOld_24 : decode mM_keepOld.2.1 24 = .ok (.getfield 16, 3) := by decide +kernel
theorem dM_keepOld_27 : decode mM_keepOld.2.1 27 = .ok (.iload_n 1, 1) := by decide +kernel
theorem dM_keepOld_28 : decode mM_keepOld.2.1 28 = .ok (.iaload, 1) := by decide +kernel
theorem dM_keepOld_29 : decode mM_keepOld.2.1 29 = .ok (.iastore, 1) := by decide +kernel
theorem dM_keepOld_30 : decode mM_keepOld.2.1 30 = .ok (.aload_n 0, 1) := by decide +kernel
theorem dM_keepOld_31 : decode mM_keepOld.2.1 31 = .ok (.getfield 29, 3) := by decide +kernel
theorem dM_keepOld_34 : decode mM_keepOld.2.1 34 = .ok (.iload_n 1, 1) := by decide +kernel
theorem dM_keepOld_35 : decode mM_keepOld.2.1 35 = .ok (.aload_n 0, 1) := by decide +kernel
theorem dM_keepOld_36 : decode mM_keepOld.2.1 36 = .ok (.getfield 20, 3) := by decide +kernel
theorem dM_keepOld_39 : decode mM_keepOld.2.1 39 = .ok (.iload_n 1, 1) := by decide +kernel
theorem dM_keepOld_40 : decode mM_keepOld.2.1 40 = .ok (.iaload, 1) := by decide +kernel
theorem dM_keepOld_41 : decode mM_keepOld.2.1 41 = .ok (.iastore, 1) := by decide +kernel
theorem dM_keepOld_42 : decode mM_keepOld.2.1 42 = .ok (.aload_n 0, 1) := by decide +kernel
theorem dM_keepOld_43 : decode mM_keepOld.2.1 43 = .ok (.getfield 32, 3) := by decide +kernel
theorem dM_keepOld_46 : decode mM_keepOld.2.1 46 = .ok (.iload_n 1, 1) := by decide +kernel
theorem dM_keepOld_47 : decode mM_keepOld.2.1 47 = .ok (.aload_n 0, 1) := by decide +kernel
theorem dM_keepOld_48 : decode mM_keepOld.2.1 48 = .ok (.getfield 23, 3) := by decide +kernel
theorem dM_keepOld_51 : decode mM_keepOld.2.1 51 = .ok (.iload_n 1, 1) := by decide +kernel
theorem dM_keepOld_52 : decode mM_keepOld.2.1 52 = .ok (.iaload, 1) := by decide +kernel
theorem dM_keepOld_53 : decode mM_keepOld.2.1 53 = .ok (.iastore, 1) := by decide +kernel
theorem dM_keepOld_54 : decode mM_keepOld.2.1 54 = .ok (.iinc 1 (1), 3) := by decide +kernel
theorem dM_keepOld_57 : decode mM_keepOld.2.1 57 = .ok (.goto (-47), 3) := by decide +kernel
theorem dM_keepOld_60 : decode mM_keepOld.2.1 60 = .ok (.aload_n 0, 1) := by decide +kernel
theorem dM_keepOld_61 : decode mM_keepOld.2.1 61 = .ok (.aload_n 0, 1) := by decide +kernel
theorem dM_keepOld_62 : decode mM_keepOld.2.1 62 = .ok (.getfield 146, 3) := by decide +kernel
theorem dM_keepOld_65 : decode mM_keepOld.2.1 65 = .ok (.putfield 232, 3) := by decide +kernel
theorem dM_keepOld_68 : decode mM_keepOld.2.1 68 = .ok (.iconst 0, 1) := by decide +kernel
theorem dM_keepOld_69 : decode mM_keepOld.2.1 69 = .ok (.istore_n 1, 1) := by decide +kernel
theorem dM_keepOld_70 : decode mM_keepOld.2.1 70 = .ok (.iload_n 1, 1) := by decide +kernel
theorem dM_keepOld_71 : decode mM_keepOld.2.1 71 = .ok (.aload_n 0, 1) := by decide +kernel
theorem dM_keepOld_72 : decode mM_keepOld.2.1 72 = .ok (.getfield 146, 3) := by decide +kernel
theorem dM_keepOld_75 : decode mM_keepOld.2.1 75 = .ok (.if_icmp .ge (45), 3) := by decide +kernel
theorem dM_keepOld_78 : decode mM_keepOld.2.1 78 = .ok (.aload_n 0, 1) := by decide +kernel
theorem dM_keepOld_79 : decode mM_keepOld.2.1 79 = .ok (.getfield 60, 3) := by decide +kernel
theorem dM_keepOld_82 : decode mM_keepOld.2.1 82 = .ok (.iload_n 1, 1) := by decide +kernel
theorem dM_keepOld_83 : decode mM_keepOld.2.1 83 = .ok (.aload_n 0, 1) := by decide +kernel
theorem dM_keepOld_84 : decode mM_keepOld.2.1 84 = .ok (.getfield 38, 3) := by decide +kernel
theorem dM_keepOld_87 : decode mM_keepOld.2.1 87 = .ok (.iload_n 1, 1) := by decide +kernel
theorem dM_keepOld_88 : decode mM_keepOld.2.1 88 = .ok (.iaload, 1) := by decide +kernel
theorem dM_keepOld_89 : decode mM_keepOld.2.1 89 = .ok (.iastore, 1) := by decide +kernel
theorem dM_keepOld_90 : decode mM_keepOld.2.1 90 = .ok (.aload_n 0, 1) := by decide +kernel
theorem dM_keepOld_91 : decode mM_keepOld.2.1 91 = .ok (.getfield 63, 3) := by decide +kernel
theorem dM_keepOld_94 : decode mM_keepOld.2.1 94 = .ok (.iload_n 1, 1) := by decide +kernel
theorem dM_keepOld_95 : decode mM_keepOld.2.1 95 = .ok (.aload_n 0, 1) := by decide +kernel
theorem dM_keepOld_96 : decode mM_keepOld.2.1 96 = .ok (.getfield 41, 3) := by decide +kernel
theorem dM_keepOld_99 : decode mM_keepOld.2.1 99 = .ok (.iload_n 1, 1) := by decide +kernel
theorem dM_keepOld_100 : decode mM_keepOld.2.1 100 = .ok (.iaload, 1) := by decide +kernel
theorem dM_keepOld_101 : decode mM_keepOld.2.1 101 = .ok (.iastore, 1) := by decide +kernel
theorem dM_keepOld_102 : decode mM_keepOld.2.1 102 = .ok (.aload_n 0, 1) := by decide +kernel
theorem dM_keepOld_103 : decode mM_keepOld.2.1 103 = .ok (.getfield 66, 3) := by decide +kernel
theorem dM_keepOld_106 : decode mM_keepOld.2.1 106 = .ok (.iload_n 1, 1) := by decide +kernel
theorem dM_keepOld_107 : decode mM_keepOld.2.1 107 = .ok (.aload_n 0, 1) := by decide +kernel
theorem dM_keepOld_108 : decode mM_keepOld.2.1 108 = .ok (.getfield 54, 3) := by decide +kernel
theorem dM_keepOld_111 : decode mM_keepOld.2.1 111 = .ok (.iload_n 1, 1) := by decide +kernel
theorem dM_keepOld_112 : decode mM_keepOld.2.1 112 = .ok (.iaload, 1) := by decide +kernel
theorem dM_keepOld_113 : decode mM_keepOld.2.1 113 = .ok (.iastore, 1) := by decide +kernel
theorem dM_keepOld_114 : decode mM_keepOld.2.1 114 = .ok (.iinc 1 (1), 3) := by decide +kernel
theorem dM_keepOld_117 : decode mM_keepOld.2.1 117 = .ok (.goto (-47), 3) := by decide +kernel
theorem dM_keepOld_120 : decode mM_keepOld.2.1 120 = .ok (.return_, 1) := by decide +kernel
theorem dM_tokenAt_0 : decode mM_tokenAt.2.1 0 = .ok (.iconst 0, 1) := by decide +kernel
theorem dM_tokenAt_1 : decode mM_tokenAt.2.1 1 = .ok (.istore 4, 2) := by decide +kernel
theorem dM_tokenAt_3 : decode mM_tokenAt.2.1 3 = .ok (.iload 4, 2) := by decide +kernel
theorem dM_tokenAt_5 : decode mM_tokenAt.2.1 5 = .ok (.aload_n 0, 1) := by decide +kernel
theorem dM_tokenAt_6 : decode mM_tokenAt.2.1 6 = .ok (.getfield 106, 3) := by decide +kernel
theorem dM_tokenAt_9 : decode mM_tokenAt.2.1 9 = .ok (.if_icmp .ge (45), 3) := by decide +kernel
theorem dM_tokenAt_12 : decode mM_tokenAt.2.1 12 = .ok (.aload_n 0, 1) := by decide +kernel
theorem dM_tokenAt_13 : decode mM_tokenAt.2.1 13 = .ok (.getfield 16, 3) := by decide +kernel
theorem dM_tokenAt_16 : decode mM_tokenAt.2.1 16 = .ok (.iload 4, 2) := by decide +kernel
theorem dM_tokenAt_18 : decode mM_tokenAt.2.1 18 = .ok (.iaload, 1) := by decide +kernel
theorem dM_tokenAt_19 : decode mM_tokenAt.2.1 19 = .ok (.iload_n 1, 1) := by decide +kernel
theorem dM_tokenAt_20 : decode mM_tokenAt.2.1 20 = .ok (.if_icmp .ne (28), 3) := by decide +kernel
theorem dM_tokenAt_23 : decode mM_tokenAt.2.1 23 = .ok (.aload_n 0, 1) := by decide +kernel
theorem dM_tokenAt_24 : decode mM_tokenAt.2.1 24 = .ok (.getfield 20, 3) := by decide +kernel
theorem dM_tokenAt_27 : decode mM_tokenAt.2.1 27 = .ok (.iload 4, 2) := by decide +kernel
theorem dM_tokenAt_29 : decode mM_tokenAt.2.1 29 = .ok (.iaload, 1) := by decide +kernel
theorem dM_tokenAt_30 : decode mM_tokenAt.2.1 30 = .ok (.iload_n 2, 1) := by decide +kernel
theorem dM_tokenAt_31 : decode mM_tokenAt.2.1 31 = .ok (.if_icmp .ne (17), 3) := by decide +kernel
theorem dM_tokenAt_34 : decode mM_tokenAt.2.1 34 = .ok (.aload_n 0, 1) := by decide +kernel
theorem dM_tokenAt_35 : decode mM_tokenAt.2.1 35 = .ok (.getfield 23, 3) := by decide +kernel
theorem dM_tokenAt_38 : decode mM_tokenAt.2.1 38 = .ok (.iload 4, 2) := by decide +kernel
theorem dM_tokenAt_40 : decode mM_tokenAt.2.1 40 = .ok (.iaload, 1) := by decide +kernel
theorem dM_tokenAt_41 : decode mM_tokenAt.2.1 41 = .ok (.iload_n 3, 1) := by decide +kernel
theorem dM_tokenAt_42 : decode mM_tokenAt.2.1 42 = .ok (.if_icmp .ne (6), 3) := by decide +kernel
theorem dM_tokenAt_45 : decode mM_tokenAt.2.1 45 = .ok (.iload 4, 2) := by decide +kernel
theorem dM_tokenAt_47 : decode mM_tokenAt.2.1 47 = .ok (.ireturn, 1) := by decide +kernel
theorem dM_tokenAt_48 : decode mM_tokenAt.2.1 48 = .ok (.iinc 4 (1), 3) := by decide +kernel
theorem dM_tokenAt_51 : decode mM_tokenAt.2.1 51 = .ok (.goto (-48), 3) := by decide +kernel
theorem dM_tokenAt_54 : decode mM_tokenAt.2.1 54 = .ok (.iconst (-1), 1) := by decide +kernel
theorem dM_tokenAt_55 : decode mM_tokenAt.2.1 55 = .ok (.ireturn, 1) := by decide +kernel
theorem dM_compareTokens_0 : decode mM_compareTokens.2.1 0 = .ok (.iconst 0, 1) := by decide +kernel
theorem dM_compareTokens_1 : decode mM_compareTokens.2.1 1 = .ok (.istore 4, 2) := by decide +kernel
theorem dM_compareTokens_3 : decode mM_compareTokens.2.1 3 = .ok (.iconst 0, 1) := by decide +kernel
theorem dM_compareTokens_4 : decode mM_compareTokens.2.1 4 = .ok (.istore 5, 2) := by decide +kernel
theorem dM_compareTokens_6 : decode mM_compareTokens.2.1 6 = .ok (.iload 5, 2) := by decide +kernel
theorem dM_compareTokens_8 : decode mM_compareTokens.2.1 8 = .ok (.aload_n 0, 1) := by decide +kernel
theorem dM_compareTokens_9 : decode mM_compareTokens.2.1 9 = .ok (.getfield 229, 3) := by decide +kernel
theorem dM_compareTokens_12 : decode mM_compareTokens.2.1 12 = .ok (.if_icmp .ge (143), 3) := by decide +kernel
theorem dM_compareTokens_15 : decode mM_compareTokens.2.1 15 = .ok (.aload_n 0, 1) := by decide +kernel
theorem dM_compareTokens_16 : decode mM_compareTokens.2.1 16 = .ok (.getfield 26, 3) := by decide +kernel
theorem dM_compareTokens_19 : decode mM_compareTokens.2.1 19 = .ok (.iload 5, 2) := by decide +kernel
theorem dM_compareTokens_21 : decode mM_compareTokens.2.1 21 = .ok (.iaload, 1) := by decide +kernel
theorem dM_compareTokens_22 : decode mM_compareTokens.2.1 22 = .ok (.aload_n 0, 1) := by decide +kernel
theorem dM_compareTokens_23 : decode mM_compareTokens.2.1 23 = .ok (.getfield 29, 3) := by decide +kernel
theorem dM_compareTokens_26 : decode mM_compareTokens.2.1 26 = .ok (.iload 5, 2) := by decide +kernel
theorem dM_compareTokens_28 : decode mM_compareTokens.2.1 28 = .ok (.iaload, 1) := by decide +kernel
theorem dM_compareTokens_29 : decode mM_compareTokens.2.1 29 = .ok (.iadd, 1) := by decide +kernel
theorem dM_compareTokens_30 : decode mM_compareTokens.2.1 30 = .ok (.iload_n 1, 1) := by decide +kernel
theorem dM_compareTokens_31 : decode mM_compareTokens.2.1 31 = .ok (.if_icmp .gt (7), 3) := by decide +kernel
theorem dM_compareTokens_34 : decode mM_compareTokens.2.1 34 = .ok (.iconst 1, 1) := by decide +kernel
theorem dM_compareTokens_35 : decode mM_compareTokens.2.1 35 = .ok (.goto (4), 3) := by decide +kernel
theorem dM_compareTokens_38 : decode mM_compareTokens.2.1 38 = .ok (.iconst 0, 1) := by decide +kernel
theorem dM_compareTokens_39 : decode mM_compareTokens.2.1 39 = .ok (.istore 6, 2) := by decide +kernel
theorem dM_compareTokens_41 : decode mM_compareTokens.2.1 41 = .ok (.aload_n 0, 1) := by decide +kernel
theorem dM_compareTokens_42 : decode mM_compareTokens.2.1 42 = .ok (.getfield 26, 3) := by decide +kernel
theorem dM_compareTokens_45 : decode mM_compareTokens.2.1 45 = .ok (.iload 5, 2) := by decide +kernel
theorem dM_compareTokens_47 : decode mM_compareTokens.2.1 47 = .ok (.iaload, 1) := by decide +kernel
theorem dM_compareTokens_48 : decode mM_compareTokens.2.1 48 = .ok (.iload_n 1, 1) := by decide +kernel
theorem dM_compareTokens_49 : decode mM_compareTokens.2.1 49 = .ok (.iload_n 2, 1) := by decide +kernel
theorem dM_compareTokens_50 : decode mM_compareTokens.2.1 50 = .ok (.iadd, 1) := by decide +kernel
theorem dM_compareTokens_51 : decode mM_compareTokens.2.1 51 = .ok (.if_icmp .lt (7), 3) := by decide +kernel
theorem dM_compareTokens_54 : decode mM_compareTokens.2.1 54 = .ok (.iconst 1, 1) := by decide +kernel
theorem dM_compareTokens_55 : decode mM_compareTokens.2.1 55 = .ok (.goto (4), 3) := by decide +kernel
theorem dM_compareTokens_58 : decode mM_compareTokens.2.1 58 = .ok (.iconst 0, 1) := by decide +kernel
theorem dM_compareTokens_59 : decode mM_compareTokens.2.1 59 = .ok (.istore 7, 2) := by decide +kernel
theorem dM_compareTokens_61 : decode mM_compareTokens.2.1 61 = .ok (.iload 6, 2) := by decide +kernel
theorem dM_compareTokens_63 : decode mM_compareTokens.2.1 63 = .ok (.ifCond .eq (13), 3) := by decide +kernel
theorem dM_compareTokens_66 : decode mM_compareTokens.2.1 66 = .ok (.aload_n 0, 1) := by decide +kernel
theorem dM_compareTokens_67 : decode mM_compareTokens.2.1 67 = .ok (.getfield 26, 3) := by decide +kernel
theorem dM_compareTokens_70 : decode mM_compareTokens.2.1 70 = .ok (.iload 5, 2) := by decide +kernel
theorem dM_compareTokens_72 : decode mM_compareTokens.2.1 72 = .ok (.iaload, 1) := by decide +kernel
theorem dM_compareTokens_73 : decode mM_compareTokens.2.1 73 = .ok (.goto (12), 3) := by decide +kernel
theorem dM_compareTokens_76 : decode mM_compareTokens.2.1 76 = .ok (.aload_n 0, 1) := by decide +kernel
theorem dM_compareTokens_77 : decode mM_compareTokens.2.1 77 = .ok (.getfield 26, 3) := by decide +kernel
theorem dM_compareTokens_80 : decode mM_compareTokens.2.1 80 = .ok (.iload 5, 2) := by decide +kernel
theorem dM_compareTokens_82 : decode mM_compareTokens.2.1 82 = .ok (.iaload, 1) := by decide +kernel
theorem dM_compareTokens_83 : decode mM_compareTokens.2.1 83 = .ok (.iload_n 3, 1) := by decide +kernel
theorem dM_compareTokens_84 : decode mM_compareTokens.2.1 84 = .ok (.iadd, 1) := by decide +kernel
theorem dM_compareTokens_85 : decode mM_compareTokens.2.1 85 = .ok (.istore 8, 2) := by decide +kernel
theorem dM_compareTokens_87 : decode mM_compareTokens.2.1 87 = .ok (.aload_n 0, 1) := by decide +kernel
theorem dM_compareTokens_88 : decode mM_compareTokens.2.1 88 = .ok (.getfield 35, 3) := by decide +kernel
theorem dM_compareTokens_91 : decode mM_compareTokens.2.1 91 = .ok (.iload 5, 2) := by decide +kernel
theorem dM_compareTokens_93 : decode mM_compareTokens.2.1 93 = .ok (.iload 6, 2) := by decide +kernel
theorem dM_compareTokens_95 : decode mM_compareTokens.2.1 95 = .ok (.ifCond .ne (8), 3) := by decide +kernel
theorem dM_compareTokens_98 : decode mM_compareTokens.2.1 98 = .ok (.iload 7, 2) := by decide +kernel
theorem dM_compareTokens_100 : decode mM_compareTokens.2.1 100 = .ok (.ifCond .eq (26), 3) := by decide +kernel
theorem dM_compareTokens_103 : decode mM_compareTokens.2.1 103 = .ok (.aload_n 0, 1) := by decide +kernel
theorem dM_compareTokens_104 : decode mM_compareTokens.2.1 104 = .ok (.iload 8, 2) := by decide +kernel
theorem dM_compareTokens_106 : decode mM_compareTokens.2.1 106 = .ok (.aload_n 0, 1) := by decide +kernel
theorem dM_compareTokens_107 : decode mM_compareTokens.2.1 107 = .ok (.getfield 29, 3) := by decide +kernel
theorem dM_compareTokens_110 : decode mM_compareTokens.2.1 110 = .ok (.iload 5, 2) := by decide +kernel
theorem dM_compareTokens_112 : decode mM_compareTokens.2.1 112 = .ok (.iaload, 1) := by decide +kernel
theorem dM_compareTokens_113 : decode mM_compareTokens.2.1 113 = .ok (.aload_n 0, 1) := by decide +kernel
theorem dM_compareTokens_114 : decode mM_compareTokens.2.1 114 = .ok (.getfield 32, 3) := by decide +kernel
theorem dM_compareTokens_117 : decode mM_compareTokens.2.1 117 = .ok (.iload 5, 2) := by decide +kernel
theorem dM_compareTokens_119 : decode mM_compareTokens.2.1 119 = .ok (.iaload, 1) := by decide +kernel
theorem dM_compareTokens_120 : decode mM_compareTokens.2.1 120 = .ok (.invokevirtual 235, 3) := by decide +kernel
theorem dM_compareTokens_123 : decode mM_compareTokens.2.1 123 = .ok (.goto (4), 3) := by decide +kernel
theorem dM_compareTokens_126 : decode mM_compareTokens.2.1 126 = .ok (.iconst (-1), 1) := by decide +kernel
theorem dM_compareTokens_127 : decode mM_compareTokens.2.1 127 = .ok (.iastore, 1) := by decide +kernel
theorem dM_compareTokens_128 : decode mM_compareTokens.2.1 128 = .ok (.aload_n 0, 1) := by decide +kernel
theorem dM_compareTokens_129 : decode mM_compareTokens.2.1 129 = .ok (.getfield 35, 3) := by decide +kernel
theorem dM_compareTokens_132 : decode mM_compareTokens.2.1 132 = .ok (.iload 5, 2) := by decide +kernel
theorem dM_compareTokens_134 : decode mM_compareTokens.2.1 134 = .ok (.iaload, 1) := by decide +kernel
theorem dM_compareTokens_135 : decode mM_compareTokens.2.1 135 = .ok (.ifCond .lt (10), 3) := by decide +kernel
theorem dM_compareTokens_138 : decode mM_compareTokens.2.1 138 = .ok (.iload 4, 2) := by decide +kernel
theorem dM_compareTokens_140 : decode mM_compareTokens.2.1 140 = .ok (.iconst 1, 1) := by decide +kernel
theorem dM_compareTokens_141 : decode mM_compareTokens.2.1 141 = .ok (.iadd, 1) := by decide +kernel
theorem dM_compareTokens_142 : decode mM_compareTokens.2.1 142 = .ok (.goto (5), 3) := by decide +kernel
theorem dM_compareTokens_145 : decode mM_compareTokens.2.1 145 = .ok (.iload 4, 2) := by decide +kernel
theorem dM_compareTokens_147 : decode mM_compareTokens.2.1 147 = .ok (.istore 4, 2) := by decide +kernel
theorem dM_compareTokens_149 : decode mM_compareTokens.2.1 149 = .ok (.iinc 5 (1), 3) := by decide +kernel
theorem dM_compareTokens_152 : decode mM_compareTokens.2.1 152 = .ok (.goto (-146), 3) := by decide +kernel
theorem dM_compareTokens_155 : decode mM_compareTokens.2.1 155 = .ok (.iload 4, 2) := by decide +kernel
theorem dM_compareTokens_157 : decode mM_compareTokens.2.1 157 = .ok (.ireturn, 1) := by decide +kernel
theorem dM_oldOf_0 : decode mM_oldOf.2.1 0 = .ok (.iconst 0, 1) := by decide +kernel
theorem dM_oldOf_1 : decode mM_oldOf.2.1 1 = .ok (.istore_n 2, 1) := by decide +kernel
theorem dM_oldOf_2 : decode mM_oldOf.2.1 2 = .ok (.iload_n 2, 1) := by decide +kernel
theorem dM_oldOf_3 : decode mM_oldOf.2.1 3 = .ok (.aload_n 0, 1) := by decide +kernel
theorem dM_oldOf_4 : decode mM_oldOf.2.1 4 = .ok (.getfield 232, 3) := by decide +kernel
theorem dM_oldOf_7 : decode mM_oldOf.2.1 7 = .ok (.if_icmp .ge (111), 3) := by decide +kernel
theorem dM_oldOf_10 : decode mM_oldOf.2.1 10 = .ok (.aload_n 0, 1) := by decide +kernel
theorem dM_oldOf_11 : decode mM_oldOf.2.1 11 = .ok (.getfield 63, 3) := by decide +kernel
theorem dM_oldOf_14 : decode mM_oldOf.2.1 14 = .ok (.iload_n 2, 1) := by decide +kernel
theorem dM_oldOf_15 : decode mM_oldOf.2.1 15 = .ok (.iaload, 1) := by decide +kernel
theorem dM_oldOf_16 : decode mM_oldOf.2.1 16 = .ok (.aload_n 0, 1) := by decide +kernel
theorem dM_oldOf_17 : decode mM_oldOf.2.1 17 = .ok (.getfield 60, 3) := by decide +kernel
theorem dM_oldOf_20 : decode mM_oldOf.2.1 20 = .ok (.iload_n 2, 1) := by decide +kernel
theorem dM_oldOf_21 : decode mM_oldOf.2.1 21 = .ok (.iaload, 1) := by decide +kernel
theorem dM_oldOf_22 : decode mM_oldOf.2.1 22 = .ok (.isub, 1) := by decide +kernel
theorem dM_oldOf_23 : decode mM_oldOf.2.1 23 = .ok (.aload_n 0, 1) := by decide +kernel
theorem dM_oldOf_24 : decode mM_oldOf.2.1 24 = .ok (.getfield 41, 3) := by decide +kernel
theorem dM_oldOf_27 : decode mM_oldOf.2.1 27 = .ok (.iload_n 1, 1) := by decide +kernel
theorem dM_oldOf_28 : decode mM_oldOf.2.1 28 = .ok (.iaload, 1) := by decide +kernel
theorem dM_oldOf_29 : decode mM_oldOf.2.1 29 = .ok (.aload_n 0, 1) := by decide +kernel
theorem dM_oldOf_30 : decode mM_oldOf.2.1 30 = .ok (.getfield 38, 3) := by decide +kernel
theorem dM_oldOf_33 : decode mM_oldOf.2.1 33 = .ok (.iload_n 1, 1) := by decide +kernel
theorem dM_oldOf_34 : decode mM_oldOf.2.1 34 = .ok (.iaload, 1) := by decide +kernel
theorem dM_oldOf_35 : decode mM_oldOf.2.1 35 = .ok (.isub, 1) := by decide +kernel
theorem dM_oldOf_36 : decode mM_oldOf.2.1 36 = .ok (.if_icmp .ne (7), 3) := by decide +kernel
theorem dM_oldOf_39 : decode mM_oldOf.2.1 39 = .ok (.iconst 1, 1) := by decide +kernel
theorem dM_oldOf_40 : decode mM_oldOf.2.1 40 = .ok (.goto (4), 3) := by decide +kernel
theorem dM_oldOf_43 : decode mM_oldOf.2.1 43 = .ok (.iconst 0, 1) := by decide +kernel
theorem dM_oldOf_44 : decode mM_oldOf.2.1 44 = .ok (.istore_n 3, 1) := by decide +kernel
theorem dM_oldOf_45 : decode mM_oldOf.2.1 45 = .ok (.aload_n 0, 1) := by decide +kernel
theorem dM_oldOf_46 : decode mM_oldOf.2.1 46 = .ok (.getfield 60, 3) := by decide +kernel
theorem dM_oldOf_49 : decode mM_oldOf.2.1 49 = .ok (.iload_n 2, 1) := by decide +kernel
theorem dM_oldOf_50 : decode mM_oldOf.2.1 50 = .ok (.iaload, 1) := by decide +kernel
theorem dM_oldOf_51 : decode mM_oldOf.2.1 51 = .ok (.istore 4, 2) := by decide +kernel
theorem dM_oldOf_53 : decode mM_oldOf.2.1 53 = .ok (.iload 4, 2) := by decide +kernel
theorem dM_oldOf_55 : decode mM_oldOf.2.1 55 = .ok (.aload_n 0, 1) := by decide +kernel
theorem dM_oldOf_56 : decode mM_oldOf.2.1 56 = .ok (.getfield 63, 3) := by decide +kernel
theorem dM_oldOf_59 : decode mM_oldOf.2.1 59 = .ok (.iload_n 2, 1) := by decide +kernel
theorem dM_oldOf_60 : decode mM_oldOf.2.1 60 = .ok (.iaload, 1) := by decide +kernel
theorem dM_oldOf_61 : decode mM_oldOf.2.1 61 = .ok (.if_icmp .gt (45), 3) := by decide +kernel
theorem dM_oldOf_64 : decode mM_oldOf.2.1 64 = .ok (.iload_n 3, 1) := by decide +kernel
theorem dM_oldOf_65 : decode mM_oldOf.2.1 65 = .ok (.ifCond .eq (41), 3) := by decide +kernel
theorem dM_oldOf_68 : decode mM_oldOf.2.1 68 = .ok (.aload_n 0, 1) := by decide +kernel
theorem dM_oldOf_69 : decode mM_oldOf.2.1 69 = .ok (.getfield 35, 3) := by decide +kernel
theorem dM_oldOf_72 : decode mM_oldOf.2.1 72 = .ok (.iload 4, 2) := by decide +kernel
theorem dM_oldOf_74 : decode mM_oldOf.2.1 74 = .ok (.iaload, 1) := by decide +kernel
theorem dM_oldOf_75 : decode mM_oldOf.2.1 75 = .ok (.aload_n 0, 1) := by decide +kernel
theorem dM_oldOf_76 : decode mM_oldOf.2.1 76 = .ok (.getfield 38, 3) := by decide +kernel
theorem dM_oldOf_79 : decode mM_oldOf.2.1 79 = .ok (.iload_n 1, 1) := by decide +kernel
theorem dM_oldOf_80 : decode mM_oldOf.2.1 80 = .ok (.iaload, 1) := by decide +kernel
theorem dM_oldOf_81 : decode mM_oldOf.2.1 81 = .ok (.iload 4, 2) := by decide +kernel
theorem dM_oldOf_83 : decode mM_oldOf.2.1 83 = .ok (.iadd, 1) := by decide +kernel
theorem dM_oldOf_84 : decode mM_oldOf.2.1 84 = .ok (.aload_n 0, 1) := by decide +kernel
theorem dM_oldOf_85 : decode mM_oldOf.2.1 85 = .ok (.getfield 60, 3) := by decide +kernel
theorem dM_oldOf_88 : decode mM_oldOf.2.1 88 = .ok (.iload_n 2, 1) := by decide +kernel
theorem dM_oldOf_89 : decode mM_oldOf.2.1 89 = .ok (.iaload, 1) := by decide +kernel
theorem dM_oldOf_90 : decode mM_oldOf.2.1 90 = .ok (.isub, 1) := by decide +kernel
theorem dM_oldOf_91 : decode mM_oldOf.2.1 91 = .ok (.if_icmp .ne (7), 3) := by decide +kernel
theorem dM_oldOf_94 : decode mM_oldOf.2.1 94 = .ok (.iconst 1, 1) := by decide +kernel
theorem dM_oldOf_95 : decode mM_oldOf.2.1 95 = .ok (.goto (4), 3) := by decide +kernel
theorem dM_oldOf_98 : decode mM_oldOf.2.1 98 = .ok (.iconst 0, 1) := by decide +kernel
theorem dM_oldOf_99 : decode mM_oldOf.2.1 99 = .ok (.istore_n 3, 1) := by decide +kernel
theorem dM_oldOf_100 : decode mM_oldOf.2.1 100 = .ok (.iinc 4 (1), 3) := by decide +kernel
theorem dM_oldOf_103 : decode mM_oldOf.2.1 103 = .ok (.goto (-50), 3) := by decide +kernel
theorem dM_oldOf_106 : decode mM_oldOf.2.1 106 = .ok (.iload_n 3, 1) := by decide +kernel
theorem dM_oldOf_107 : decode mM_oldOf.2.1 107 = .ok (.ifCond .eq (5), 3) := by decide +kernel
theorem dM_oldOf_110 : decode mM_oldOf.2.1 110 = .ok (.iload_n 2, 1) := by decide +kernel
theorem dM_oldOf_111 : decode mM_oldOf.2.1 111 = .ok (.ireturn, 1) := by decide +kernel
theorem dM_oldOf_112 : decode mM_oldOf.2.1 112 = .ok (.iinc 2 (1), 3) := by decide +kernel
theorem dM_oldOf_115 : decode mM_oldOf.2.1 115 = .ok (.goto (-113), 3) := by decide +kernel
theorem dM_oldOf_118 : decode mM_oldOf.2.1 118 = .ok (.iconst (-1), 1) := by decide +kernel
theorem dM_oldOf_119 : decode mM_oldOf.2.1 119 = .ok (.ireturn, 1) := by decide +kernel
theorem dM_giveNumbers_0 : decode mM_giveNumbers.2.1 0 = .ok (.aload_n 0, 1) := by decide +kernel
theorem dM_giveNumbers_1 : decode mM_giveNumbers.2.1 1 = .ok (.iconst 0, 1) := by decide +kernel
theorem dM_giveNumbers_2 : decode mM_giveNumbers.2.1 2 = .ok (.putfield 238, 3) := by decide +kernel
theorem dM_giveNumbers_5 : decode mM_giveNumbers.2.1 5 = .ok (.iconst 0, 1) := by decide +kernel
theorem dM_giveNumbers_6 : decode mM_giveNumbers.2.1 6 = .ok (.istore_n 1, 1) := by decide +kernel
theorem dM_giveNumbers_7 : decode mM_giveNumbers.2.1 7 = .ok (.iload_n 1, 1) := by decide +kernel
theorem dM_giveNumbers_8 : decode mM_giveNumbers.2.1 8 = .ok (.aload_n 0, 1) := by decide +kernel
theorem dM_giveNumbers_9 : decode mM_giveNumbers.2.1 9 = .ok (.getfield 146, 3) := by decide +kernel
theorem dM_giveNumbers_12 : decode mM_giveNumbers.2.1 12 = .ok (.if_icmp .ge (64), 3) := by decide +kernel
