theorem dM_init_0 : decode mM_init.2.1 0 = .ok (.aload_n 0, 1) := by decide +kernel
theorem dM_init_1 : decode mM_init.2.1 1 = .ok (.invokespecial 1, 3) := by decide +kernel
theorem dM_init_4 : decode mM_init.2.1 4 = .ok (.aload_n 0, 1) := by decide +kernel
theorem dM_init_5 : decode mM_init.2.1 5 = .ok (.sipush (160), 3) := by decide +kernel
theorem dM_init_8 : decode mM_init.2.1 8 = .ok (.newarray .char, 2) := by decide +kernel
theorem dM_init_10 : decode mM_init.2.1 10 = .ok (.putfield 7, 3) := by decide +kernel
theorem dM_init_13 : decode mM_init.2.1 13 = .ok (.aload_n 0, 1) := by decide +kernel
theorem dM_init_14 : decode mM_init.2.1 14 = .ok (.bipush (40), 2) := by decide +kernel
theorem dM_init_16 : decode mM_init.2.1 16 = .ok (.newarray .char, 2) := by decide +kernel
theorem dM_init_18 : decode mM_init.2.1 18 = .ok (.putfield 13, 3) := by decide +kernel
theorem dM_init_21 : decode mM_init.2.1 21 = .ok (.aload_n 0, 1) := by decide +kernel
theorem dM_init_22 : decode mM_init.2.1 22 = .ok (.sipush (160), 3) := by decide +kernel
theorem dM_init_25 : decode mM_init.2.1 25 = .ok (.newarray .int, 2) := by decide +kernel
theorem dM_init_27 : decode mM_init.2.1 27 = .ok (.putfield 16, 3) := by decide +kernel
theorem dM_init_30 : decode mM_init.2.1 30 = .ok (.aload_n 0, 1) := by decide +kernel
theorem dM_init_31 : decode mM_init.2.1 31 = .ok (.sipush (160), 3) := by decide +kernel
theorem dM_init_34 : decode mM_init.2.1 34 = .ok (.newarray .int, 2) := by decide +kernel
theorem dM_init_36 : decode mM_init.2.1 36 = .ok (.putfield 20, 3) := by decide +kernel
theorem dM_init_39 : decode mM_init.2.1 39 = .ok (.aload_n 0, 1) := by decide +kernel
theorem dM_init_40 : decode mM_init.2.1 40 = .ok (.sipush (160), 3) := by decide +kernel
theorem dM_init_43 : decode mM_init.2.1 43 = .ok (.newarray .int, 2) := by decide +kernel
theorem dM_init_45 : decode mM_init.2.1 45 = .ok (.putfield 23, 3) := by decide +kernel
theorem dM_init_48 : decode mM_init.2.1 48 = .ok (.aload_n 0, 1) := by decide +kernel
theorem dM_init_49 : decode mM_init.2.1 49 = .ok (.sipush (160), 3) := by decide +kernel
theorem dM_init_52 : decode mM_init.2.1 52 = .ok (.newarray .int, 2) := by decide +kernel
theorem dM_init_54 : decode mM_init.2.1 54 = .ok (.putfield 26, 3) := by decide +kernel
theorem dM_init_57 : decode mM_init.2.1 57 = .ok (.aload_n 0, 1) := by decide +kernel
theorem dM_init_58 : decode mM_init.2.1 58 = .ok (.sipush (160), 3) := by decide +kernel
theorem dM_init_61 : decode mM_init.2.1 61 = .ok (.newarray .int, 2) := by decide +kernel
theorem dM_init_63 : decode mM_init.2.1 63 = .ok (.putfield 29, 3) := by decide +kernel
theorem dM_init_66 : decode mM_init.2.1 66 = .ok (.aload_n 0, 1) := by decide +kernel
theorem dM_init_67 : decode mM_init.2.1 67 = .ok (.sipush (160), 3) := by decide +kernel
theorem dM_init_70 : decode mM_init.2.1 70 = .ok (.newarray .int, 2) := by decide +kernel
theorem dM_init_72 : decode mM_init.2.1 72 = .ok (.putfield 32, 3) := by decide +kernel
theorem dM_init_75 : decode mM_init.2.1 75 = .ok (.aload_n 0, 1) := by decide +kernel
theorem dM_init_76 : decode mM_init.2.1 76 = .ok (.sipush (160), 3) := by decide +kernel
theorem dM_init_79 : decode mM_init.2.1 79 = .ok (.newarray .int, 2) := by decide +kernel
theorem dM_init_81 : decode mM_init.2.1 81 = .ok (.putfield 35, 3) := by decide +kernel
theorem dM_init_84 : decode mM_init.2.1 84 = .ok (.aload_n 0, 1) := by decide +kernel
theorem dM_init_85 : decode mM_init.2.1 85 = .ok (.sipush (160), 3) := by decide +kernel
theorem dM_init_88 : decode mM_init.2.1 88 = .ok (.newarray .int, 2) := by decide +kernel
theorem dM_init_90 : decode mM_init.2.1 90 = .ok (.putfield 38, 3) := by decide +kernel
theorem dM_init_93 : decode mM_init.2.1 93 = .ok (.aload_n 0, 1) := by decide +kernel
theorem dM_init_94 : decode mM_init.2.1 94 = .ok (.sipush (160), 3) := by decide +kernel
theorem dM_init_97 : decode mM_init.2.1 97 = .ok (.newarray .int, 2) := by decide +kernel
theorem dM_init_99 : decode mM_init.2.1 99 = .ok (.putfield 41, 3) := by decide +kernel
theorem dM_init_102 : decode mM_init.2.1 102 = .ok (.aload_n 0, 1) := by decide +kernel
theorem dM_init_103 : decode mM_init.2.1 103 = .ok (.sipush (160), 3) := by decide +kernel
theorem dM_init_106 : decode mM_init.2.1 106 = .ok (.newarray .int, 2) := by decide +kernel
theorem dM_init_108 : decode mM_init.2.1 108 = .ok (.putfield 44, 3) := by decide +kernel
theorem dM_init_111 : decode mM_init.2.1 111 = .ok (.aload_n 0, 1) := by decide +kernel
theorem dM_init_112 : decode mM_init.2.1 112 = .ok (.sipush (160), 3) := by decide +kernel
theorem dM_init_115 : decode mM_init.2.1 115 = .ok (.newarray .boolean, 2) := by decide +kernel
theorem dM_init_117 : decode mM_init.2.1 117 = .ok (.putfield 47, 3) := by decide +kernel
theorem dM_init_120 : decode mM_init.2.1 120 = .ok (.aload_n 0, 1) := by decide +kernel
theorem dM_init_121 : decode mM_init.2.1 121 = .ok (.sipush (160), 3) := by decide +kernel
theorem dM_init_124 : decode mM_init.2.1 124 = .ok (.newarray .boolean, 2) := by decide +kernel
theorem dM_init_126 : decode mM_init.2.1 126 = .ok (.putfield 51, 3) := by decide +kernel
theorem dM_init_129 : decode mM_init.2.1 129 = .ok (.aload_n 0, 1) := by decide +kernel
theorem dM_init_130 : decode mM_init.2.1 130 = .ok (.sipush (160), 3) := by decide +kernel
theorem dM_init_133 : decode mM_init.2.1 133 = .ok (.newarray .int, 2) := by decide +kernel
theorem dM_init_135 : decode mM_init.2.1 135 = .ok (.putfield 54, 3) := by decide +kernel
theorem dM_init_138 : decode mM_init.2.1 138 = .ok (.aload_n 0, 1) := by decide +kernel
theorem dM_init_139 : decode mM_init.2.1 139 = .ok (.sipush (160), 3) := by decide +kernel
theorem dM_init_142 : decode mM_init.2.1 142 = .ok (.newarray .int, 2) := by decide +kernel
theorem dM_init_144 : decode mM_init.2.1 144 = .ok (.putfield 57, 3) := by decide +kernel
theorem dM_init_147 : decode mM_init.2.1 147 = .ok (.aload_n 0, 1) := by decide +kernel
theorem dM_init_148 : decode mM_init.2.1 148 = .ok (.sipush (160), 3) := by decide +kernel
theorem dM_init_151 : decode mM_init.2.1 151 = .ok (.newarray .int, 2) := by decide +kernel
theorem dM_init_153 : decode mM_init.2.1 153 = .ok (.putfield 60, 3) := by decide +kernel
theorem dM_init_156 : decode mM_init.2.1 156 = .ok (.aload_n 0, 1) := by decide +kernel
theorem dM_init_157 : decode mM_init.2.1 157 = .ok (.sipush (160), 3) := by decide +kernel
theorem dM_init_160 : decode mM_init.2.1 160 = .ok (.newarray .int, 2) := by decide +kernel
theorem dM_init_162 : decode mM_init.2.1 162 = .ok (.putfield 63, 3) := by decide +kernel
theorem dM_init_165 : decode mM_init.2.1 165 = .ok (.aload_n 0, 1) := by decide +kernel
theorem dM_init_166 : decode mM_init.2.1 166 = .ok (.sipush (160), 3) := by decide +kernel
theorem dM_init_169 : decode mM_init.2.1 169 = .ok (.newarray .int, 2) := by decide +kernel
theorem dM_init_171 : decode mM_init.2.1 171 = .ok (.putfield 66, 3) := by decide +kernel
theorem dM_init_174 : decode mM_init.2.1 174 = .ok (.aload_n 0, 1) := by decide +kernel
theorem dM_init_175 : decode mM_init.2.1 175 = .ok (.iconst (-1), 1) := by decide +kernel
theorem dM_init_176 : decode mM_init.2.1 176 = .ok (.putfield 69, 3) := by decide +kernel
theorem dM_init_179 : decode mM_init.2.1 179 = .ok (.aload_n 0, 1) := by decide +kernel
theorem dM_init_180 : decode mM_init.2.1 180 = .ok (.bipush (13), 2) := by decide +kernel
theorem dM_init_182 : decode mM_init.2.1 182 = .ok (.newarray .int, 2) := by decide +kernel
theorem dM_init_184 : decode mM_init.2.1 184 = .ok (.putfield 73, 3) := by decide +kernel
theorem dM_init_187 : decode mM_init.2.1 187 = .ok (.aload_n 0, 1) := by decide +kernel
theorem dM_init_188 : decode mM_init.2.1 188 = .ok (.bipush (13), 2) := by decide +kernel
theorem dM_init_190 : decode mM_init.2.1 190 = .ok (.newarray .int, 2) := by decide +kernel
theorem dM_init_192 : decode mM_init.2.1 192 = .ok (.putfield 76, 3) := by decide +kernel
theorem dM_init_195 : decode mM_init.2.1 195 = .ok (.aload_n 0, 1) := by decide +kernel
theorem dM_init_196 : decode mM_init.2.1 196 = .ok (.bipush (16), 2) := by decide +kernel
theorem dM_init_198 : decode mM_init.2.1 198 = .ok (.newarray .int, 2) := by decide +kernel
theorem dM_init_200 : decode mM_init.2.1 200 = .ok (.putfield 79, 3) := by decide +kernel
theorem dM_init_203 : decode mM_init.2.1 203 = .ok (.aload_n 0, 1) := by decide +kernel
theorem dM_init_204 : decode mM_init.2.1 204 = .ok (.bipush (16), 2) := by decide +kernel
theorem dM_init_206 : decode mM_init.2.1 206 = .ok (.newarray .int, 2) := by decide +kernel
theorem dM_init_208 : decode mM_init.2.1 208 = .ok (.putfield 82, 3) := by decide +kernel
theorem dM_init_211 : decode mM_init.2.1 211 = .ok (.aload_n 0, 1) := by decide +kernel
theorem dM_init_212 : decode mM_init.2.1 212 = .ok (.bipush (16), 2) := by decide +kernel
theorem dM_init_214 : decode mM_init.2.1 214 = .ok (.newarray .int, 2) := by decide +kernel
theorem dM_init_216 : decode mM_init.2.1 216 = .ok (.putfield 85, 3) := by decide +kernel
theorem dM_init_219 : decode mM_init.2.1 219 = .ok (.aload_n 0, 1) := by decide +kernel
theorem dM_init_220 : decode mM_init.2.1 220 = .ok (.bipush (16), 2) := by decide +kernel
theorem dM_init_222 : decode mM_init.2.1 222 = .ok (.newarray .int, 2) := by decide +kernel
theorem dM_init_224 : decode mM_init.2.1 224 = .ok (.putfield 88, 3) := by decide +kernel
theorem dM_init_227 : decode mM_init.2.1 227 = .ok (.aload_n 0, 1) := by decide +kernel
theorem dM_init_228 : decode mM_init.2.1 228 = .ok (.bipush (16), 2) := by decide +kernel
theorem dM_init_230 : decode mM_init.2.1 230 = .ok (.newarray .int, 2) := by decide +kernel
theorem dM_init_232 : decode mM_init.2.1 232 = .ok (.putfield 91, 3) := by decide +kernel
theorem dM_init_235 : decode mM_init.2.1 235 = .ok (.aload_n 0, 1) := by decide +kernel
theorem dM_init_236 : decode mM_init.2.1 236 = .ok (.bipush (16), 2) := by decide +kernel
theorem dM_init_238 : decode mM_init.2.1 238 = .ok (.newarray .boolean, 2) := by decide +kernel
theorem dM_init_240 : decode mM_init.2.1 240 = .ok (.putfield 94, 3) := by decide +kernel
theorem dM_init_243 : decode mM_init.2.1 243 = .ok (.return_, 1) := by decide +kernel
theorem dM_thrown_0 : decode mM_thrown.2.1 0 = .ok (.aload_n 0, 1) := by decide +kernel
theorem dM_thrown_1 : decode mM_thrown.2.1 1 = .ok (.getfield 97, 3) := by decide +kernel
theorem dM_thrown_4 : decode mM_thrown.2.1 4 = .ok (.ireturn, 1) := by decide +kernel
theorem dM_type_0 : decode mM_type.2.1 0 = .ok (.aload_n 0, 1) := by decide +kernel
theorem dM_type_1 : decode mM_type.2.1 1 = .ok (.iconst 0, 1) := by decide +kernel
theorem dM_type_2 : decode mM_type.2.1 2 = .ok (.putfield 97, 3) := by decide +kernel
theorem dM_type_5 : decode mM_type.2.1 5 = .ok (.iload_n 1, 1) := by decide +kernel
theorem dM_type_6 : decode mM_type.2.1 6 = .ok (.bipush (10), 2) := by decide +kernel
theorem dM_type_8 : decode mM_type.2.1 8 = .ok (.if_icmp .eq (15), 3) := by decide +kernel
theorem dM_type_11 : decode mM_type.2.1 11 = .ok (.iload_n 1, 1) := by decide +kernel
theorem dM_type_12 : decode mM_type.2.1 12 = .ok (.bipush (32), 2) := by decide +kernel
theorem dM_type_14 : decode mM_type.2.1 14 = .ok (.if_icmp .lt (18), 3) := by decide +kernel
theorem dM_type_17 : decode mM_type.2.1 17 = .ok (.iload_n 1, 1) := by decide +kernel
theorem dM_type_18 : decode mM_type.2.1 18 = .ok (.bipush (126), 2) := by decide +kernel
theorem dM_type_20 : decode mM_type.2.1 20 = .ok (.if_icmp .gt (12), 3) := by decide +kernel
theorem dM_type_23 : decode mM_type.2.1 23 = .ok (.aload_n 0, 1) := by decide +kernel
theorem dM_type_24 : decode mM_type.2.1 24 = .ok (.getfield 100, 3) := by decide +kernel
theorem dM_type_27 : decode mM_type.2.1 27 = .ok (.bipush (40), 2) := by decide +kernel
theorem dM_type_29 : decode mM_type.2.1 29 = .ok (.if_icmp .ne (5), 3) := by decide +kernel
theorem dM_type_32 : decode mM_type.2.1 32 = .ok (.iconst 0, 1) := by decide +kernel
theorem dM_type_33 : decode mM_type.2.1 33 = .ok (.ireturn, 1) := by decide +kernel
theorem dM_type_34 : decode mM_type.2.1 34 = .ok (.aload_n 0, 1) := by decide +kernel
theorem dM_type_35 : decode mM_type.2.1 35 = .ok (.getfield 13, 3) := by decide +kernel
theorem dM_type_38 : decode mM_type.2.1 38 = .ok (.aload_n 0, 1) := by decide +kernel
theorem dM_type_39 : decode mM_type.2.1 39 = .ok (.getfield 100, 3) := by decide +kernel
theorem dM_type_42 : decode mM_type.2.1 42 = .ok (.iload_n 1, 1) := by decide +kernel
theorem dM_type_43 : decode mM_type.2.1 43 = .ok (.castore, 1) := by decide +kernel
theorem dM_type_44 : decode mM_type.2.1 44 = .ok (.aload_n 0, 1) := by decide +kernel
theorem dM_type_45 : decode mM_type.2.1 45 = .ok (.dup, 1) := by decide +kernel
theorem dM_type_46 : decode mM_type.2.1 46 = .ok (.getfield 100, 3) := by decide +kernel
theorem dM_type_49 : decode mM_type.2.1 49 = .ok (.iconst 1, 1) := by decide +kernel
theorem dM_type_50 : decode mM_type.2.1 50 = .ok (.iadd, 1) := by decide +kernel
theorem dM_type_51 : decode mM_type.2.1 51 = .ok (.putfield 100, 3) := by decide +kernel
theorem dM_type_54 : decode mM_type.2.1 54 = .ok (.iconst 1, 1) := by decide +kernel
theorem dM_type_55 : decode mM_type.2.1 55 = .ok (.ireturn, 1) := by decide +kernel
theorem dM_wipe_0 : decode mM_wipe.2.1 0 = .ok (.aload_n 0, 1) := by decide +kernel
theorem dM_wipe_1 : decode mM_wipe.2.1 1 = .ok (.iconst 0, 1) := by decide +kernel
theorem dM_wipe_2 : decode mM_wipe.2.1 2 = .ok (.putfield 97, 3) := by decide +kernel
theorem dM_wipe_5 : decode mM_wipe.2.1 5 = .ok (.aload_n 0, 1) := by decide +kernel
theorem dM_wipe_6 : decode mM_wipe.2.1 6 = .ok (.getfield 100, 3) := by decide +kernel
theorem dM_wipe_9 : decode mM_wipe.2.1 9 = .ok (.istore_n 1, 1) := by decide +kernel
theorem dM_wipe_10 : decode mM_wipe.2.1 10 = .ok (.aload_n 0, 1) := by decide +kernel
theorem dM_wipe_11 : decode mM_wipe.2.1 11 = .ok (.iconst 0, 1) := by decide +kernel
theorem dM_wipe_12 : decode mM_wipe.2.1 12 = .ok (.putfield 100, 3) := by decide +kernel
theorem dM_wipe_15 : decode mM_wipe.2.1 15 = .ok (.iload_n 1, 1) := by decide +kernel
theorem dM_wipe_16 : decode mM_wipe.2.1 16 = .ok (.ireturn, 1) := by decide +kernel
theorem dM_change_0 : decode mM_change.2.1 0 = .ok (.aload_n 0, 1) := by decide +kernel
theorem dM_change_1 : decode mM_change.2.1 1 = .ok (.getfield 100, 3) := by decide +kernel
theorem dM_change_4 : decode mM_change.2.1 4 = .ok (.iload_n 2, 1) := by decide +kernel
theorem dM_change_5 : decode mM_change.2.1 5 = .ok (.isub, 1) := by decide +kernel
theorem dM_change_6 : decode mM_change.2.1 6 = .ok (.istore_n 3, 1) := by decide +kernel
theorem dM_change_7 : decode mM_change.2.1 7 = .ok (.iload_n 3, 1) := by decide +kernel
theorem dM_change_8 : decode mM_change.2.1 8 = .ok (.ifCond .le (44), 3) := by decide +kernel
theorem dM_change_11 : decode mM_change.2.1 11 = .ok (.aload_n 0, 1) := by decide +kernel
theorem dM_change_12 : decode mM_change.2.1 12 = .ok (.getfield 103, 3) := by decide +kernel
theorem dM_change_15 : decode mM_change.2.1 15 = .ok (.iconst 1, 1) := by decide +kernel
theorem dM_change_16 : decode mM_change.2.1 16 = .ok (.isub, 1) := by decide +kernel
theorem dM_change_17 : decode mM_change.2.1 17 = .ok (.istore 4, 2) := by decide +kernel
theorem dM_change_19 : decode mM_change.2.1 19 = .ok (.iload 4, 2) := by decide +kernel
theorem dM_change_21 : decode mM_change.2.1 21 = .ok (.iload_n 1, 1) := by decide +kernel
theorem dM_change_22 : decode mM_change.2.1 22 = .ok (.iload_n 2, 1) := by decide +kernel
theorem dM_change_23 : decode mM_change.2.1 23 = .ok (.iadd, 1) := by decide +kernel
theorem dM_change_24 : decode mM_change.2.1 24 = .ok (.if_icmp .lt (25), 3) := by decide +kernel
theorem dM_change_27 : decode mM_change.2.1 27 = .ok (.aload_n 0, 1) := by decide +kernel
theorem dM_change_28 : decode mM_change.2.1 28 = .ok (.getfield 7, 3) := by decide +kernel
theorem dM_change_31 : decode mM_change.2.1 31 = .ok (.iload 4, 2) := by decide +kernel
theorem dM_change_33 : decode mM_change.2.1 33 = .ok (.iload_n 3, 1) := by decide +kernel
theorem dM_change_34 : decode mM_change.2.1 34 = .ok (.iadd, 1) := by decide +kernel
theorem dM_change_35 : decode mM_change.2.1 35 = .ok (.aload_n 0, 1) := by decide +kernel
theorem dM_change_36 : decode mM_change.2.1 36 = .ok (.getfield 7, 3) := by decide +kernel
theorem dM_change_39 : decode mM_change.2.1 39 = .ok (.iload 4, 2) := by decide +kernel
theorem dM_change_41 : decode mM_change.2.1 41 = .ok (.caload, 1) := by decide +kernel
theorem dM_change_42 : decode mM_change.2.1 42 = .ok (.castore, 1) := by decide +kernel
theorem dM_change_43 : decode mM_change.2.1 43 = .ok (.iinc 4 (-1), 3) := by decide +kernel
theorem dM_change_46 : decode mM_change.2.1 46 = .ok (.goto (-27), 3) := by decide +kernel
theorem dM_change_49 : decode mM_change.2.1 49 = .ok (.goto (39), 3) := by decide +kernel
theorem dM_change_52 : decode mM_change.2.1 52 = .ok (.iload_n 1, 1) := by decide +kernel
theorem dM_change_53 : decode mM_change.2.1 53 = .ok (.iload_n 2, 1) := by decide +kernel
theorem dM_change_54 : decode mM_change.2.1 54 = .ok (.iadd, 1) := by decide +kernel
theorem dM_change_55 : decode mM_change.2.1 55 = .ok (.istore 4, 2) := by decide +kernel
theorem dM_change_57 : decode mM_change.2.1 57 = .ok (.iload 4, 2) := by decide +kernel
theorem dM_change_59 : decode mM_change.2.1 59 = .ok (.aload_n 0, 1) := by decide +kernel
theorem dM_change_60 : decode mM_change.2.1 60 = .ok (.getfield 103, 3) := by decide +kernel
theorem dM_change_63 : decode mM_change.2.1 63 = .ok (.if_icmp .ge (25), 3) := by decide +kernel
theorem dM_change_66 : decode mM_change.2.1 66 = .ok (.aload_n 0, 1) := by decide +kernel
theorem dM_change_67 : decode mM_change.2.1 67 = .ok (.getfield 7, 3) := by decide +kernel
theorem dM_change_70 : decode mM_change.2.1 70 = .ok (.iload 4, 2) := by decide +kernel
theorem dM_change_72 : decode mM_change.2.1 72 = .ok (.iload_n 3, 1) := by decide +kernel
theorem dM_change_73 : decode mM_change.2.1 73 = .ok (.iadd, 1) := by decide +kernel
theorem dM_change_74 : decode mM_change.2.1 74 = .ok (.aload_n 0, 1) := by decide +kernel
theorem dM_change_75 : decode mM_change.2.1 75 = .ok (.getfield 7, 3) := by decide +kernel
theorem dM_change_78 : decode mM_change.2.1 78 = .ok (.iload 4, 2) := by decide +kernel
theorem dM_change_80 : decode mM_change.2.1 80 = .ok (.caload, 1) := by decide +kernel
theorem dM_change_81 : decode mM_change.2.1 81 = .ok (.castore, 1) := by decide +kernel
theorem dM_change_82 : decode mM_change.2.1 82 = .ok (.iinc 4 (1), 3) := by decide +kernel
theorem dM_change_85 : decode mM_change.2.1 85 = .ok (.goto (-28), 3) := by decide +kernel
theorem dM_change_88 : decode mM_change.2.1 88 = .ok (.iconst 0, 1) := by decide +kernel
theorem dM_change_89 : decode mM_change.2.1 89 = .ok (.istore 4, 2) := by decide +kernel
theorem dM_change_91 : decode mM_change.2.1 91 = .ok (.iload 4, 2) := by decide +kernel
theorem dM_change_93 : decode mM_change.2.1 93 = .ok (.aload_n 0, 1) := by decide +kernel
theorem dM_change_94 : decode mM_change.2.1 94 = .ok (.getfield 100, 3) := by decide +kernel
theorem dM_change_97 : decode mM_change.2.1 97 = .ok (.if_icmp .ge (25), 3) := by decide +kernel
theorem dM_change_100 : decode mM_change.2.1 100 = .ok (.aload_n 0, 1) := by decide +kernel
theorem dM_change_101 : decode mM_change.2.1 101 = .ok (.getfield 7, 3) := by decide +kernel
theorem dM_change_104 : decode mM_change.2.1 104 = .ok (.iload_n 1, 1) := by decide +kernel
theorem dM_change_105 : decode mM_change.2.1 105 = .ok (.iload 4, 2) := by decide +kernel
theorem dM_change_107 : decode mM_change.2.1 107 = .ok (.iadd, 1) := by decide +kernel
theorem dM_change_108 : decode mM_change.2.1 108 = .ok (.aload_n 0, 1) := by decide +kernel
theorem dM_change_109 : decode mM_change.2.1 109 = .ok (.getfield 13, 3) := by decide +kernel
theorem dM_change_112 : decode mM_change.2.1 112 = .ok (.iload 4, 2) := by decide +kernel
theorem dM_change_114 : decode mM_change.2.1 114 = .ok (.caload, 1) := by decide +kernel
theorem dM_change_115 : decode mM_change.2.1 115 = .ok (.castore, 1) := by decide +kernel
theorem dM_change_116 : decode mM_change.2.1 116 = .ok (.iinc 4 (1), 3) := by decide +kernel
theorem dM_change_119 : decode mM_change.2.1 119 = .ok (.goto (-28), 3) := by decide +kernel
theorem dM_change_122 : decode mM_change.2.1 122 = .ok (.aload_n 0, 1) := by decide +kernel
theorem dM_change_123 : decode mM_change.2.1 123 = .ok (.aload_n 0, 1) := by decide +kernel
theorem dM_change_124 : decode mM_change.2.1 124 = .ok (.getfield 103, 3) := by decide +kernel
theorem dM_change_127 : decode mM_change.2.1 127 = .ok (.iload_n 3, 1) := by decide +kernel
theorem dM_change_128 : decode mM_change.2.1 128 = .ok (.iadd, 1) := by decide +kernel
theorem dM_change_129 : decode mM_change.2.1 129 = .ok (.putfield 103, 3) := by decide +kernel
theorem dM_change_132 : decode mM_change.2.1 132 = .ok (.aload_n 0, 1) := by decide +kernel
theorem dM_change_133 : decode mM_change.2.1 133 = .ok (.iconst 0, 1) := by decide +kernel
theorem dM_change_134 : decode mM_change.2.1 134 = .ok (.putfield 100, 3) := by decide +kernel
theorem dM_change_137 : decode mM_change.2.1 137 = .ok (.return_, 1) := by decide +kernel
theorem dM_isLetter_0 : decode mM_isLetter.2.1 0 = .ok (.iload_n 0, 1) := by decide +kernel
theorem dM_isLetter_1 : decode mM_isLetter.2.1 1 = .ok (.bipush (97), 2) := by decide +kernel
theorem dM_isLetter_3 : decode mM_isLetter.2.1 3 = .ok (.if_icmp .lt (13), 3) := by decide +kernel
theorem dM_isLetter_6 : decode mM_isLetter.2.1 6 = .ok (.iload_n 0, 1) := by decide +kernel
theorem dM_isLetter_7 : decode mM_isLetter.2.1 7 = .ok (.bipush (122), 2) := by decide +kernel
theorem dM_isLetter_9 : decode mM_isLetter.2.1 9 = .ok (.if_icmp .gt (7), 3) := by decide +kernel
theorem dM_isLetter_12 : decode mM_isLetter.2.1 12 = .ok (.iconst 1, 1) := by decide +kernel
theorem dM_isLetter_13 : decode mM_isLetter.2.1 13 = .ok (.goto (4), 3) := by decide +kernel
theorem dM_isLetter_16 : decode mM_isLetter.2.1 16 = .ok (.iconst 0, 1) := by decide +kernel
theorem dM_isLetter_17 : decode mM_isLetter.2.1 17 = .ok (.ireturn, 1) := by decide +kernel
theorem dM_isDigit_0 : decode mM_isDigit.2.1 0 = .ok (.iload_n 0, 1) := by decide +kernel
theorem dM_isDigit_1 : decode mM_isDigit.2.1 1 = .ok (.bipush (48), 2) := by decide +kernel
theorem dM_isDigit_3 : decode mM_isDigit.2.1 3 = .ok (.if_icmp .lt (13), 3) := by decide +kernel
theorem dM_isDigit_6 : decode mM_isDigit.2.1 6 = .ok (.iload_n 0, 1) := by decide +kernel
theorem dM_isDigit_7 : decode mM_isDigit.2.1 7 = .ok (.bipush (57), 2) := by decide +kernel
theorem dM_isDigit_9 : decode mM_isDigit.2.1 9 = .ok (.if_icmp .gt (7), 3) := by decide +kernel
theorem dM_isDigit_12 : decode mM_isDigit.2.1 12 = .ok (.iconst 1, 1) := by decide +kernel
theorem dM_isDigit_13 : decode mM_isDigit.2.1 13 = .ok (.goto (4), 3) := by decide +kernel
theorem dM_isDigit_16 : decode mM_isDigit.2.1 16 = .ok (.iconst 0, 1) := by decide +kernel
theorem dM_isDigit_17 : decode mM_isDigit.2.1 17 = .ok (.ireturn, 1) := by decide +kernel
theorem dM_isSign_0 : decode mM_isSign.2.1 0 = .ok (.iload_n 0, 1) := by decide +kernel
theorem dM_isSign_1 : decode mM_isSign.2.1 1 = .ok (.bipush (61), 2) := by decide +kernel
theorem dM_isSign_3 : decode mM_isSign.2.1 3 = .ok (.if_icmp .eq (57), 3) := by decide +kernel
theorem dM_isSign_6 : decode mM_isSign.2.1 6 = .ok (.iload_n 0, 1) := by decide +kernel
theorem dM_isSign_7 : decode mM_isSign.2.1 7 = .ok (.bipush (59), 2) := by decide +kernel
theorem dM_isSign_9 : decode mM_isSign.2.1 9 = .ok (.if_icmp .eq (51), 3) := by decide +kernel
theorem dM_isSign_12 : decode mM_isSign.2.1 12 = .ok (.iload_n 0, 1) := by decide +kernel
theorem dM_isSign_13 : decode mM_isSign.2.1 13 = .ok (.bipush (43), 2) := by decide +kernel
theorem dM_isSign_15 : decode mM_isSign.2.1 15 = .ok (.if_icmp .eq (45), 3) := by decide +kernel
theorem dM_isSign_18 : decode mM_isSign.2.1 18 = .ok (.iload_n 0, 1) := by decide +kernel
theorem dM_isSign_19 : decode mM_isSign.2.1 19 = .ok (.bipush (45), 2) := by decide +kernel
theorem dM_isSign_21 : decode mM_isSign.2.1 21 = .ok (.if_icmp .eq (39), 3) := by decide +kernel
theorem dM_isSign_24 : decode mM_isSign.2.1 24 = .ok (.iload_n 0, 1) := by decide +kernel
theorem dM_isSign_25 : decode mM_isSign.2.1 25 = .ok (.bipush (42), 2) := by decide +kernel
theorem dM_isSign_27 : decode mM_isSign.2.1 27 = .ok (.if_icmp .eq (33), 3) := by decide +kernel
theorem dM_isSign_30 : decode mM_isSign.2.1 30 = .ok (.iload_n 0, 1) := by decide +kernel
theorem dM_isSign_31 : decode mM_isSign.2.1 31 = .ok (.bipush (40), 2) := by decide +kernel
theorem dM_isSign_33 : decode mM_isSign.2.1 33 = .ok (.if_icmp .eq (27), 3) := by decide +kernel
theorem dM_isSign_36 : decode mM_isSign.2.1 36 = .ok (.iload_n 0, 1) := by decide +kernel
theorem dM_isSign_37 : decode mM_isSign.2.1 37 = .ok (.bipush (41), 2) := by decide +kernel
theorem dM_isSign_39 : decode mM_isSign.2.1 39 = .ok (.if_icmp .eq (21), 3) := by decide +kernel
theorem dM_isSign_42 : decode mM_isSign.2.1 42 = .ok (.iload_n 0, 1) := by decide +kernel
theorem dM_isSign_43 : decode mM_isSign.2.1 43 = .ok (.bipush (123), 2) := by decide +kernel
theorem dM_isSign_45 : decode mM_isSign.2.1 45 = .ok (.if_icmp .eq (15), 3) := by decide +kernel
theorem dM_isSign_48 : decode mM_isSign.2.1 48 = .ok (.iload_n 0, 1) := by decide +kernel
theorem dM_isSign_49 : decode mM_isSign.2.1 49 = .ok (.bipush (125), 2) := by decide +kernel
theorem dM_isSign_51 : decode mM_isSign.2.1 51 = .ok (.if_icmp .eq (9), 3) := by decide +kernel
theorem dM_isSign_54 : decode mM_isSign.2.1 54 = .ok (.iload_n 0, 1) := by decide +kernel
theorem dM_isSign_55 : decode mM_isSign.2.1 55 = .ok (.bipush (44), 2) := by decide +kernel
theorem dM_isSign_57 : decode mM_isSign.2.1 57 = .ok (.if_icmp .ne (7), 3) := by decide +kernel
theorem dM_isSign_60 : decode mM_isSign.2.1 60 = .ok (.iconst 1, 1) := by decide +kernel
theorem dM_isSign_61 : decode mM_isSign.2.1 61 = .ok (.goto (4), 3) := by decide +kernel
theorem dM_isSign_64 : decode mM_isSign.2.1 64 = .ok (.iconst 0, 1) := by decide +kernel
theorem dM_isSign_65 : decode mM_isSign.2.1 65 = .ok (.ireturn, 1) := by decide +kernel
theorem dM_skip_0 : decode mM_skip.2.1 0 = .ok (.iload_n 1, 1) := by decide +kernel
theorem dM_skip_1 : decode mM_skip.2.1 1 = .ok (.istore_n 2, 1) := by decide +kernel
theorem dM_skip_2 : decode mM_skip.2.1 2 = .ok (.iconst 0, 1) := by decide +kernel
theorem dM_skip_3 : decode mM_skip.2.1 3 = .ok (.istore_n 3, 1) := by decide +kernel
theorem dM_skip_4 : decode mM_skip.2.1 4 = .ok (.iload_n 2, 1) := by decide +kernel
theorem dM_skip_5 : decode mM_skip.2.1 5 = .ok (.aload_n 0, 1) := by decide +kernel
theorem dM_skip_6 : decode mM_skip.2.1 6 = .ok (.getfield 103, 3) := by decide +kernel
theorem dM_skip_9 : decode mM_skip.2.1 9 = .ok (.if_icmp .ge (78), 3) := by decide +kernel
theorem dM_skip_12 : decode mM_skip.2.1 12 = .ok (.iload_n 3, 1) := by decide +kernel
theorem dM_skip_13 : decode mM_skip.2.1 13 = .ok (.ifCond .ne (36), 3) := by decide +kernel
theorem dM_skip_16 : decode mM_skip.2.1 16 = .ok (.aload_n 0, 1) := by decide +kernel
theorem dM_skip_17 : decode mM_skip.2.1 17 = .ok (.getfield 7, 3) := by decide +kernel
theorem dM_skip_20 : decode mM_skip.2.1 20 = .ok (.iload_n 2, 1) := by decide +kernel
theorem dM_skip_21 : decode mM_skip.2.1 21 = .ok (.caload, 1) := by decide +kernel
theorem dM_skip_22 : decode mM_skip.2.1 22 = .ok (.bipush (32), 2) := by decide +kernel
theorem dM_skip_24 : decode mM_skip.2.1 24 = .ok (.if_icmp .eq (25), 3) := by decide +kernel
theorem dM_skip_27 : decode mM_skip.2.1 27 = .ok (.aload_n 0, 1) := by decide +kernel
theorem dM_skip_28 : decode mM_skip.2.1 28 = .ok (.getfield 7, 3) := by decide +kernel
theorem dM_skip_31 : decode mM_skip.2.1 31 = .ok (.iload_n 2, 1) := by decide +kernel
theorem dM_skip_32 : decode mM_skip.2.1 32 = .ok (.caload, 1) := by decide +kernel
theorem dM_skip_33 : decode mM_skip.2.1 33 = .ok (.bipush (10), 2) := by decide +kernel
theorem dM_skip_35 : decode mM_skip.2.1 35 = .ok (.if_icmp .eq (14), 3) := by decide +kernel
theorem dM_skip_38 : decode mM_skip.2.1 38 = .ok (.aload_n 0, 1) := by decide +kernel
theorem dM_skip_39 : decode mM_skip.2.1 39 = .ok (.getfield 7, 3) := by decide +kernel
theorem dM_skip_42 : decode mM_skip.2.1 42 = .ok (.iload_n 2, 1) := by decide +kernel
theorem dM_skip_43 : decode mM_skip.2.1 43 = .ok (.caload, 1) := by decide +kernel
theorem dM_skip_44 : decode mM_skip.2.1 44 = .ok (.bipush (35), 2) := by decide +kernel
theorem dM_skip_46 : decode mM_skip.2.1 46 = .ok (.if_icmp .ne (41), 3) := by decide +kernel
theorem dM_skip_49 : decode mM_skip.2.1 49 = .ok (.aload_n 0, 1) := by decide +kernel
theorem dM_skip_50 : decode mM_skip.2.1 50 = .ok (.getfield 7, 3) := by decide +kernel
theorem dM_skip_53 : decode mM_skip.2.1 53 = .ok (.iload_n 2, 1) := by decide +kernel
theorem dM_skip_54 : decode mM_skip.2.1 54 = .ok (.caload, 1) := by decide +kernel
theorem dM_skip_55 : decode mM_skip.2.1 55 = .ok (.bipush (35), 2) := by decide +kernel
theorem dM_skip_57 : decode mM_skip.2.1 57 = .ok (.if_icmp .eq (18), 3) := by decide +kernel
theorem dM_skip_60 : decode mM_skip.2.1 60 = .ok (.iload_n 3, 1) := by decide +kernel
theorem dM_skip_61 : decode mM_skip.2.1 61 = .ok (.ifCond .eq (18), 3) := by decide +kernel
theorem dM_skip_64 : decode mM_skip.2.1 64 = .ok (.aload_n 0, 1) := by decide +kernel
theorem dM_skip_65 : decode mM_skip.2.1 65 = .ok (.getfield 7, 3) := by decide +kernel
theorem dM_skip_68 : decode mM_skip.2.1 68 = .ok (.iload_n 2, 1) := by decide +kernel
theorem dM_skip_69 : decode mM_skip.2.1 69 = .ok (.caload, 1) := by decide +kernel
theorem dM_skip_70 : decode mM_skip.2.1 70 = .ok (.bipush (10), 2) := by decide +kernel
theorem dM_skip_72 : decode mM_skip.2.1 72 = .ok (.if_icmp .eq (7), 3) := by decide +kernel
theorem dM_skip_75 : decode mM_skip.2.1 75 = .ok (.iconst 1, 1) := by decide +kernel
theorem dM_skip_76 : decode mM_skip.2.1 76 = .ok (.goto (4), 3) := by decide +kernel
theorem dM_skip_79 : decode mM_skip.2.1 79 = .ok (.iconst 0, 1) := by decide +kernel
theorem dM_skip_80 : decode mM_skip.2.1 80 = .ok (.istore_n 3, 1) := by decide +kernel
theorem dM_skip_81 : decode mM_skip.2.1 81 = .ok (.iinc 2 (1), 3) := by decide +kernel
theorem dM_skip_84 : decode mM_skip.2.1 84 = .ok (.goto (-80), 3) := by decide +kernel
theorem dM_skip_87 : decode mM_skip.2.1 87 = .ok (.iload_n 2, 1) := by decide +kernel
theorem dM_skip_88 : decode mM_skip.2.1 88 = .ok (.ireturn, 1) := by decide +kernel
theorem dM_addToken_0 : decode mM_addToken.2.1 0 = .ok (.aload_n 0, 1) := by decide +kernel
theorem dM_addToken_1 : decode mM_addToken.2.1 1 = .ok (.getfield 16, 3) := by decide +kernel
theorem dM_addToken_4 : decode mM_addToken.2.1 4 = .ok (.aload_n 0, 1) := by decide +kernel
theorem dM_addToken_5 : decode mM_addToken.2.1 5 = .ok (.getfield 106, 3) := by decide +kernel
theorem dM_addToken_8 : decode mM_addToken.2.1 8 = .ok (.iload_n 1, 1) := by decide +kernel
theorem dM_addToken_9 : decode mM_addToken.2.1 9 = .ok (.iastore, 1) := by decide +kernel
theorem dM_addToken_10 : decode mM_addToken.2.1 10 = .ok (.aload_n 0, 1) := by decide +kernel
theorem dM_addToken_11 : decode mM_addToken.2.1 11 = .ok (.getfield 20, 3) := by decide +kernel
theorem dM_addToken_14 : decode mM_addToken.2.1 14 = .ok (.aload_n 0, 1) := by decide +kernel
theorem dM_addToken_15 : decode mM_addToken.2.1 15 = .ok (.getfield 106, 3) := by decide +kernel
theorem dM_addToken_18 : decode mM_addToken.2.1 18 = .ok (.iload_n 2, 1) := by decide +kernel
theorem dM_addToken_19 : decode mM_addToken.2.1 19 = .ok (.iload_n 1, 1) := by decide +kernel
theorem dM_addToken_20 : decode mM_addToken.2.1 20 = .ok (.isub, 1) := by decide +kernel
theorem dM_addToken_21 : decode mM_addToken.2.1 21 = .ok (.iastore, 1) := by decide +kernel
theorem dM_addToken_22 : decode mM_addToken.2.1 22 = .ok (.aload_n 0, 1) := by decide +kernel
theorem dM_addToken_23 : decode mM_addToken.2.1 23 = .ok (.getfield 23, 3) := by decide +kernel
theorem dM_addToken_26 : decode mM_addToken.2.1 26 = .ok (.aload_n 0, 1) := by decide +kernel
theorem dM_addToken_27 : decode mM_addToken.2.1 27 = .ok (.getfield 106, 3) := by decide +kernel
theorem dM_addToken_30 : decode mM_addToken.2.1 30 = .ok (.iload_n 3, 1) := by decide +kernel
theorem dM_addToken_31 : decode mM_addToken.2.1 31 = .ok (.iastore, 1) := by decide +kernel
theorem dM_addToken_32 : decode mM_addToken.2.1 32 = .ok (.aload_n 0, 1) := by decide +kernel
theorem dM_addToken_33 : decode mM_addToken.2.1 33 = .ok (.dup, 1) := by decide +kernel
theorem dM_addToken_34 : decode mM_addToken.2.1 34 = .ok (.getfield 106, 3) := by decide +kernel
theorem dM_addToken_37 : decode mM_addToken.2.1 37 = .ok (.iconst 1, 1) := by decide +kernel
theorem dM_addToken_38 : decode mM_addToken.2.1 38 = .ok (.iadd, 1) := by decide +kernel
theorem dM_addToken_39 : decode mM_addToken.2.1 39 = .ok (.putfield 106, 3) := by decide +kernel
theorem dM_addToken_42 : decode mM_addToken.2.1 42 = .ok (.return_, 1) := by decide +kernel
theorem dM_findTokens_0 : decode mM_findTokens.2.1 0 = .ok (.aload_n 0, 1) := by decide +kernel
theorem dM_findTokens_1 : decode mM_findTokens.2.1 1 = .ok (.iconst 0, 1) := by decide +kernel
theorem dM_findTokens_2 : decode mM_findTokens.2.1 2 = .ok (.putfield 106, 3) := by decide +kernel
theorem dM_findTokens_5 : decode mM_findTokens.2.1 5 = .ok (.aload_n 0, 1) := by decide +kernel
theorem dM_findTokens_6 : decode mM_findTokens.2.1 6 = .ok (.iconst 0, 1) := by decide +kernel
theorem dM_findTokens_7 : decode mM_findTokens.2.1 7 = .ok (.invokevirtual 109, 3) := by decide +kernel
theorem dM_findTokens_10 : decode mM_findTokens.2.1 10 = .ok (.istore_n 1, 1) := by decide +kernel
theorem dM_findTokens_11 : decode mM_findTokens.2.1 11 = .ok (.iload_n 1, 1) := by decide +kernel
theorem dM_findTokens_12 : decode mM_findTokens.2.1 12 = .ok (.aload_n 0, 1) := by decide +kernel
theorem dM_findTokens_13 : decode mM_findTokens.2.1 13 = .ok (.getfield 103, 3) := by decide +kernel
theorem dM_findTokens_16 : decode mM_findTokens.2.1 16 = .ok (.if_icmp .ge (189), 3) := by decide +kernel
theorem dM_findTokens_19 : decode mM_findTokens.2.1 19 = .ok (.aload_n 0, 1) := by decide +kernel
theorem dM_findTokens_20 : decode mM_findTokens.2.1 20 = .ok (.getfield 7, 3) := by decide +kernel
theorem dM_findTokens_23 : decode mM_findTokens.2.1 23 = .ok (.iload_n 1, 1) := by decide +kernel
theorem dM_findTokens_24 : decode mM_findTokens.2.1 24 = .ok (.caload, 1) := by decide +kernel
theorem dM_findTokens_25 : decode mM_findTokens.2.1 25 = .ok (.istore_n 2, 1) := by decide +kernel
theorem dM_findTokens_26 : decode mM_findTokens.2.1 26 = .ok (.iload_n 1, 1) := by decide +kernel
theorem dM_findTokens_27 : decode mM_findTokens.2.1 27 = .ok (.iconst 1, 1) := by decide +kernel
theorem dM_findTokens_28 : decode mM_findTokens.2.1 28 = .ok (.iadd, 1) := by decide +kernel
theorem dM_findTokens_29 : decode mM_findTokens.2.1 29 = .ok (.istore_n 3, 1) := by decide +kernel
theorem dM_findTokens_30 : decode mM_findTokens.2.1 30 = .ok (.iload_n 2, 1) := by decide +kernel
theorem dM_findTokens_31 : decode mM_findTokens.2.1 31 = .ok (.invokestatic 113, 3) := by decide +kernel
theorem dM_findTokens_34 : decode mM_findTokens.2.1 34 = .ok (.ifCond .eq (7), 3) := by decide +kernel
theorem dM_findTokens_37 : decode mM_findTokens.2.1 37 = .ok (.iconst 0, 1) := by decide +kernel
theorem dM_findTokens_38 : decode mM_findTokens.2.1 38 = .ok (.goto (26), 3) := by decide +kernel
theorem dM_findTokens_41 : decode mM_findTokens.2.1 41 = .ok (.iload_n 2, 1) := by decide +kernel
theorem dM_findTokens_42 : decode mM_findTokens.2.1 42 = .ok (.invokestatic 117, 3) := by decide +kernel
theorem dM_findTokens_45 : decode mM_findTokens.2.1 45 = .ok (.ifCond .eq (7), 3) := by decide +kernel
theorem dM_findTokens_48 : decode mM_findTokens.2.1 48 = .ok (.iconst 1, 1) := by decide +kernel
theorem dM_findTokens_49 : decode mM_findTokens.2.1 49 = .ok (.goto (15), 3) := by decide +kernel
theorem dM_findTokens_52 : decode mM_findTokens.2.1 52 = .ok (.iload_n 2, 1) := by decide +kernel
theorem dM_findTokens_53 : decode mM_findTokens.2.1 53 = .ok (.invokestatic 120, 3) := by decide +kernel
theorem dM_findTokens_56 : decode mM_findTokens.2.1 56 = .ok (.ifCond .eq (7), 3) := by decide +kernel
theorem dM_findTokens_59 : decode mM_findTokens.2.1 59 = .ok (.iconst 3, 1) := by decide +kernel
theorem dM_findTokens_60 : decode mM_findTokens.2.1 60 = .ok (.goto (4), 3) := by decide +kernel
theorem dM_findTokens_63 : decode mM_findTokens.2.1 63 = .ok (.iconst 4, 1) := by decide +kernel
theorem dM_findTokens_64 : decode mM_findTokens.2.1 64 = .ok (.istore 4, 2) := by decide +kernel
theorem dM_findTokens_66 : decode mM_findTokens.2.1 66 = .ok (.iload 4, 2) := by decide +kernel
theorem dM_findTokens_68 : decode mM_findTokens.2.1 68 = .ok (.ifCond .eq (9), 3) := by decide +kernel
theorem dM_findTokens_71 : decode mM_findTokens.2.1 71 = .ok (.iload 4, 2) := by decide +kernel
theorem dM_findTokens_73 : decode mM_findTokens.2.1 73 = .ok (.iconst 1, 1) := by decide +kernel
theorem dM_findTokens_74 : decode mM_findTokens.2.1 74 = .ok (.if_icmp .ne (49), 3) := by decide +kernel
theorem dM_findTokens_77 : decode mM_findTokens.2.1 77 = .ok (.iload_n 3, 1) := by decide +kernel
theorem dM_findTokens_78 : decode mM_findTokens.2.1 78 = .ok (.aload_n 0, 1) := by decide +kernel
theorem dM_findTokens_79 : decode mM_findTokens.2.1 79 = .ok (.getfield 103, 3) := by decide +kernel
theorem dM_findTokens_82 : decode mM_findTokens.2.1 82 = .ok (.if_icmp .ge (41), 3) := by decide +kernel
theorem dM_findTokens_85 : decode mM_findTokens.2.1 85 = .ok (.iload 4, 2) := by decide +kernel
theorem dM_findTokens_87 : decode mM_findTokens.2.1 87 = .ok (.ifCond .ne (18), 3) := by decide +kernel
theorem dM_findTokens_90 : decode mM_findTokens.2.1 90 = .ok (.aload_n 0, 1) := by decide +kernel
theorem dM_findTokens_91 : decode mM_findTokens.2.1 91 = .ok (.getfield 7, 3) := by decide +kernel
theorem dM_findTokens_94 : decode mM_findTokens.2.1 94 = .ok (.iload_n 3, 1) := by decide +kernel
theorem dM_findTokens_95 : decode mM_findTokens.2.1 95 = .ok (.caload, 1) := by decide +kernel
theorem dM_findTokens_96 : decode mM_findTokens.2.1 96 = .ok (.invokestatic 113, 3) := by decide +kernel
theorem dM_findTokens_99 : decode mM_findTokens.2.1 99 = .ok (.ifCond .eq (24), 3) := by decide +kernel
theorem dM_findTokens_102 : decode mM_findTokens.2.1 102 = .ok (.goto (15), 3) := by decide +kernel
theorem dM_findTokens_105 : decode mM_findTokens.2.1 105 = .ok (.aload_n 0, 1) := by decide +kernel
theorem dM_findTokens_106 : decode mM_findTokens.2.1 106 = .ok (.getfield 7, 3) := by decide +kernel
theorem dM_findTokens_109 : decode mM_findTokens.2.1 109 = .ok (.iload_n 3, 1) := by decide +kernel
theorem dM_findTokens_110 : decode mM_findTokens.2.1 110 = .ok (.caload, 1) := by decide +kernel
theorem dM_findTokens_111 : decode mM_findTokens.2.1 111 = .ok (.invokestatic 117, 3) := by decide +kernel
theorem dM_findTokens_114 : decode mM_findTokens.2.1 114 = .ok (.ifCond .eq (9), 3) := by decide +kernel
theorem dM_findTokens_117 : decode mM_findTokens.2.1 117 = .ok (.iinc 3 (1), 3) := by decide +kernel
theorem dM_findTokens_120 : decode mM_findTokens.2.1 120 = .ok (.goto (-43), 3) := by decide +kernel
theorem dM_findTokens_123 : decode mM_findTokens.2.1 123 = .ok (.iload_n 2, 1) := by decide +kernel
theorem dM_findTokens_124 : decode mM_findTokens.2.1 124 = .ok (.bipush (34), 2) := by decide +kernel
theorem dM_findTokens_126 : decode mM_findTokens.2.1 126 = .ok (.if_icmp .ne (62), 3) := by decide +kernel
theorem dM_findTokens_129 : decode mM_findTokens.2.1 129 = .ok (.iload_n 3, 1) := by decide +kernel
theorem dM_findTokens_130 : decode mM_findTokens.2.1 130 = .ok (.aload_n 0, 1) := by decide +kernel
theorem dM_findTokens_131 : decode mM_findTokens.2.1 131 = .ok (.getfield 103, 3) := by decide +kernel
theorem dM_findTokens_134 : decode mM_findTokens.2.1 134 = .ok (.if_icmp .ge (20), 3) := by decide +kernel
theorem dM_findTokens_137 : decode mM_findTokens.2.1 137 = .ok (.aload_n 0, 1) := by decide +kernel
theorem dM_findTokens_138 : decode mM_findTokens.2.1 138 = .ok (.getfield 7, 3) := by decide +kernel
theorem dM_findTokens_141 : decode mM_findTokens.2.1 141 = .ok (.iload_n 3, 1) := by decide +kernel
theorem dM_findTokens_142 : decode mM_findTokens.2.1 142 = .ok (.caload, 1) := by decide +kernel
theorem dM_findTokens_143 : decode mM_findTokens.2.1 143 = .ok (.bipush (34), 2) := by decide +kernel
theorem dM_findTokens_145 : decode mM_findTokens.2.1 145 = .ok (.if_icmp .eq (9), 3) := by decide +kernel
theorem dM_findTokens_148 : decode mM_findTokens.2.1 148 = .ok (.iinc 3 (1), 3) := by decide +kernel
theorem dM_findTokens_151 : decode mM_findTokens.2.1 151 = .ok (.goto (-22), 3) := by decide +kernel
theorem dM_findTokens_154 : decode mM_findTokens.2.1 154 = .ok (.iload_n 3, 1) := by decide +kernel
theorem dM_findTokens_155 : decode mM_findTokens.2.1 155 = .ok (.aload_n 0, 1) := by decide +kernel
theorem dM_findTokens_156 : decode mM_findTokens.2.1 156 = .ok (.getfield 103, 3) := by decide +kernel
