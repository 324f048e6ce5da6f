theorem dM_findTokens_159 : decode mM_findTokens.2.1 159 = .ok (.if_icmp .ge (7), 3) := by decide +kernel
theorem dM_findTokens_162 : decode mM_findTokens.2.1 162 = .ok (.iconst 2, 1) := by decide +kernel
theorem dM_findTokens_163 : decode mM_findTokens.2.1 163 = .ok (.goto (4), 3) := by decide +kernel
theorem dM_findTokens_166 : decode mM_findTokens.2.1 166 = .ok (.iconst 4, 1) := by decide +kernel
theorem dM_findTokens_167 : decode mM_findTokens.2.1 167 = .ok (.istore 4, 2) := by decide +kernel
theorem dM_findTokens_169 : decode mM_findTokens.2.1 169 = .ok (.iload_n 3, 1) := by decide +kernel
theorem dM_findTokens_170 : decode mM_findTokens.2.1 170 = .ok (.aload_n 0, 1) := by decide +kernel
theorem dM_findTokens_171 : decode mM_findTokens.2.1 171 = .ok (.getfield 103, 3) := by decide +kernel
theorem dM_findTokens_174 : decode mM_findTokens.2.1 174 = .ok (.if_icmp .ge (9), 3) := by decide +kernel
theorem dM_findTokens_177 : decode mM_findTokens.2.1 177 = .ok (.iload_n 3, 1) := by decide +kernel
theorem dM_findTokens_178 : decode mM_findTokens.2.1 178 = .ok (.iconst 1, 1) := by decide +kernel
theorem dM_findTokens_179 : decode mM_findTokens.2.1 179 = .ok (.iadd, 1) := by decide +kernel
theorem dM_findTokens_180 : decode mM_findTokens.2.1 180 = .ok (.goto (7), 3) := by decide +kernel
theorem dM_findTokens_183 : decode mM_findTokens.2.1 183 = .ok (.aload_n 0, 1) := by decide +kernel
theorem dM_findTokens_184 : decode mM_findTokens.2.1 184 = .ok (.getfield 103, 3) := by decide +kernel
theorem dM_findTokens_187 : decode mM_findTokens.2.1 187 = .ok (.istore_n 3, 1) := by decide +kernel
theorem dM_findTokens_188 : decode mM_findTokens.2.1 188 = .ok (.aload_n 0, 1) := by decide +kernel
theorem dM_findTokens_189 : decode mM_findTokens.2.1 189 = .ok (.iload_n 1, 1) := by decide +kernel
theorem dM_findTokens_190 : decode mM_findTokens.2.1 190 = .ok (.iload_n 3, 1) := by decide +kernel
theorem dM_findTokens_191 : decode mM_findTokens.2.1 191 = .ok (.iload 4, 2) := by decide +kernel
theorem dM_findTokens_193 : decode mM_findTokens.2.1 193 = .ok (.invokevirtual 123, 3) := by decide +kernel
theorem dM_findTokens_196 : decode mM_findTokens.2.1 196 = .ok (.aload_n 0, 1) := by decide +kernel
theorem dM_findTokens_197 : decode mM_findTokens.2.1 197 = .ok (.iload_n 3, 1) := by decide +kernel
theorem dM_findTokens_198 : decode mM_findTokens.2.1 198 = .ok (.invokevirtual 109, 3) := by decide +kernel
theorem dM_findTokens_201 : decode mM_findTokens.2.1 201 = .ok (.istore_n 1, 1) := by decide +kernel
theorem dM_findTokens_202 : decode mM_findTokens.2.1 202 = .ok (.goto (-191), 3) := by decide +kernel
theorem dM_findTokens_205 : decode mM_findTokens.2.1 205 = .ok (.return_, 1) := by decide +kernel
theorem dM_is_0 : decode mM_is.2.1 0 = .ok (.aload_n 0, 1) := by decide +kernel
theorem dM_is_1 : decode mM_is.2.1 1 = .ok (.getfield 23, 3) := by decide +kernel
theorem dM_is_4 : decode mM_is.2.1 4 = .ok (.iload_n 1, 1) := by decide +kernel
theorem dM_is_5 : decode mM_is.2.1 5 = .ok (.iaload, 1) := by decide +kernel
theorem dM_is_6 : decode mM_is.2.1 6 = .ok (.iconst 3, 1) := by decide +kernel
theorem dM_is_7 : decode mM_is.2.1 7 = .ok (.if_icmp .ne (22), 3) := by decide +kernel
theorem dM_is_10 : decode mM_is.2.1 10 = .ok (.aload_n 0, 1) := by decide +kernel
theorem dM_is_11 : decode mM_is.2.1 11 = .ok (.getfield 7, 3) := by decide +kernel
theorem dM_is_14 : decode mM_is.2.1 14 = .ok (.aload_n 0, 1) := by decide +kernel
theorem dM_is_15 : decode mM_is.2.1 15 = .ok (.getfield 16, 3) := by decide +kernel
theorem dM_is_18 : decode mM_is.2.1 18 = .ok (.iload_n 1, 1) := by decide +kernel
theorem dM_is_19 : decode mM_is.2.1 19 = .ok (.iaload, 1) := by decide +kernel
theorem dM_is_20 : decode mM_is.2.1 20 = .ok (.caload, 1) := by decide +kernel
theorem dM_is_21 : decode mM_is.2.1 21 = .ok (.iload_n 2, 1) := by decide +kernel
theorem dM_is_22 : decode mM_is.2.1 22 = .ok (.if_icmp .ne (7), 3) := by decide +kernel
theorem dM_is_25 : decode mM_is.2.1 25 = .ok (.iconst 1, 1) := by decide +kernel
theorem dM_is_26 : decode mM_is.2.1 26 = .ok (.goto (4), 3) := by decide +kernel
theorem dM_is_29 : decode mM_is.2.1 29 = .ok (.iconst 0, 1) := by decide +kernel
theorem dM_is_30 : decode mM_is.2.1 30 = .ok (.ireturn, 1) := by decide +kernel
theorem dM_top_0 : decode mM_top.2.1 0 = .ok (.aload_n 0, 1) := by decide +kernel
theorem dM_top_1 : decode mM_top.2.1 1 = .ok (.getfield 127, 3) := by decide +kernel
theorem dM_top_4 : decode mM_top.2.1 4 = .ok (.ifCond .ne (7), 3) := by decide +kernel
theorem dM_top_7 : decode mM_top.2.1 7 = .ok (.iconst 0, 1) := by decide +kernel
theorem dM_top_8 : decode mM_top.2.1 8 = .ok (.goto (14), 3) := by decide +kernel
theorem dM_top_11 : decode mM_top.2.1 11 = .ok (.aload_n 0, 1) := by decide +kernel
theorem dM_top_12 : decode mM_top.2.1 12 = .ok (.getfield 73, 3) := by decide +kernel
theorem dM_top_15 : decode mM_top.2.1 15 = .ok (.aload_n 0, 1) := by decide +kernel
theorem dM_top_16 : decode mM_top.2.1 16 = .ok (.getfield 127, 3) := by decide +kernel
theorem dM_top_19 : decode mM_top.2.1 19 = .ok (.iconst 1, 1) := by decide +kernel
theorem dM_top_20 : decode mM_top.2.1 20 = .ok (.isub, 1) := by decide +kernel
theorem dM_top_21 : decode mM_top.2.1 21 = .ok (.iaload, 1) := by decide +kernel
theorem dM_top_22 : decode mM_top.2.1 22 = .ok (.ireturn, 1) := by decide +kernel
theorem dM_push_0 : decode mM_push.2.1 0 = .ok (.aload_n 0, 1) := by decide +kernel
theorem dM_push_1 : decode mM_push.2.1 1 = .ok (.getfield 127, 3) := by decide +kernel
theorem dM_push_4 : decode mM_push.2.1 4 = .ok (.bipush (12), 2) := by decide +kernel
theorem dM_push_6 : decode mM_push.2.1 6 = .ok (.if_icmp .ne (5), 3) := by decide +kernel
theorem dM_push_9 : decode mM_push.2.1 9 = .ok (.iconst 0, 1) := by decide +kernel
theorem dM_push_10 : decode mM_push.2.1 10 = .ok (.ireturn, 1) := by decide +kernel
theorem dM_push_11 : decode mM_push.2.1 11 = .ok (.aload_n 0, 1) := by decide +kernel
theorem dM_push_12 : decode mM_push.2.1 12 = .ok (.getfield 73, 3) := by decide +kernel
theorem dM_push_15 : decode mM_push.2.1 15 = .ok (.aload_n 0, 1) := by decide +kernel
theorem dM_push_16 : decode mM_push.2.1 16 = .ok (.getfield 127, 3) := by decide +kernel
theorem dM_push_19 : decode mM_push.2.1 19 = .ok (.iload_n 1, 1) := by decide +kernel
theorem dM_push_20 : decode mM_push.2.1 20 = .ok (.iastore, 1) := by decide +kernel
theorem dM_push_21 : decode mM_push.2.1 21 = .ok (.aload_n 0, 1) := by decide +kernel
theorem dM_push_22 : decode mM_push.2.1 22 = .ok (.dup, 1) := by decide +kernel
theorem dM_push_23 : decode mM_push.2.1 23 = .ok (.getfield 127, 3) := by decide +kernel
theorem dM_push_26 : decode mM_push.2.1 26 = .ok (.iconst 1, 1) := by decide +kernel
theorem dM_push_27 : decode mM_push.2.1 27 = .ok (.iadd, 1) := by decide +kernel
theorem dM_push_28 : decode mM_push.2.1 28 = .ok (.putfield 127, 3) := by decide +kernel
theorem dM_push_31 : decode mM_push.2.1 31 = .ok (.iconst 1, 1) := by decide +kernel
theorem dM_push_32 : decode mM_push.2.1 32 = .ok (.ireturn, 1) := by decide +kernel
theorem dM_whole_0 : decode mM_whole.2.1 0 = .ok (.aload_n 0, 1) := by decide +kernel
theorem dM_whole_1 : decode mM_whole.2.1 1 = .ok (.invokevirtual 130, 3) := by decide +kernel
theorem dM_whole_4 : decode mM_whole.2.1 4 = .ok (.iconst 4, 1) := by decide +kernel
theorem dM_whole_5 : decode mM_whole.2.1 5 = .ok (.if_icmp .ne (16), 3) := by decide +kernel
theorem dM_whole_8 : decode mM_whole.2.1 8 = .ok (.aload_n 0, 1) := by decide +kernel
theorem dM_whole_9 : decode mM_whole.2.1 9 = .ok (.dup, 1) := by decide +kernel
theorem dM_whole_10 : decode mM_whole.2.1 10 = .ok (.getfield 127, 3) := by decide +kernel
theorem dM_whole_13 : decode mM_whole.2.1 13 = .ok (.iconst 1, 1) := by decide +kernel
theorem dM_whole_14 : decode mM_whole.2.1 14 = .ok (.isub, 1) := by decide +kernel
theorem dM_whole_15 : decode mM_whole.2.1 15 = .ok (.putfield 127, 3) := by decide +kernel
theorem dM_whole_18 : decode mM_whole.2.1 18 = .ok (.goto (-18), 3) := by decide +kernel
theorem dM_whole_21 : decode mM_whole.2.1 21 = .ok (.aload_n 0, 1) := by decide +kernel
theorem dM_whole_22 : decode mM_whole.2.1 22 = .ok (.iconst 5, 1) := by decide +kernel
theorem dM_whole_23 : decode mM_whole.2.1 23 = .ok (.putfield 134, 3) := by decide +kernel
theorem dM_whole_26 : decode mM_whole.2.1 26 = .ok (.return_, 1) := by decide +kernel
theorem dM_start_0 : decode mM_start.2.1 0 = .ok (.aload_n 0, 1) := by decide +kernel
theorem dM_start_1 : decode mM_start.2.1 1 = .ok (.getfield 38, 3) := by decide +kernel
theorem dM_start_4 : decode mM_start.2.1 4 = .ok (.aload_n 0, 1) := by decide +kernel
theorem dM_start_5 : decode mM_start.2.1 5 = .ok (.getfield 137, 3) := by decide +kernel
theorem dM_start_8 : decode mM_start.2.1 8 = .ok (.iload_n 1, 1) := by decide +kernel
theorem dM_start_9 : decode mM_start.2.1 9 = .ok (.iastore, 1) := by decide +kernel
theorem dM_start_10 : decode mM_start.2.1 10 = .ok (.aload_n 0, 1) := by decide +kernel
theorem dM_start_11 : decode mM_start.2.1 11 = .ok (.getfield 41, 3) := by decide +kernel
theorem dM_start_14 : decode mM_start.2.1 14 = .ok (.aload_n 0, 1) := by decide +kernel
theorem dM_start_15 : decode mM_start.2.1 15 = .ok (.getfield 137, 3) := by decide +kernel
theorem dM_start_18 : decode mM_start.2.1 18 = .ok (.iconst (-1), 1) := by decide +kernel
theorem dM_start_19 : decode mM_start.2.1 19 = .ok (.iastore, 1) := by decide +kernel
theorem dM_start_20 : decode mM_start.2.1 20 = .ok (.aload_n 0, 1) := by decide +kernel
theorem dM_start_21 : decode mM_start.2.1 21 = .ok (.getfield 44, 3) := by decide +kernel
theorem dM_start_24 : decode mM_start.2.1 24 = .ok (.aload_n 0, 1) := by decide +kernel
theorem dM_start_25 : decode mM_start.2.1 25 = .ok (.getfield 137, 3) := by decide +kernel
theorem dM_start_28 : decode mM_start.2.1 28 = .ok (.aload_n 0, 1) := by decide +kernel
theorem dM_start_29 : decode mM_start.2.1 29 = .ok (.getfield 140, 3) := by decide +kernel
theorem dM_start_32 : decode mM_start.2.1 32 = .ok (.iastore, 1) := by decide +kernel
theorem dM_start_33 : decode mM_start.2.1 33 = .ok (.aload_n 0, 1) := by decide +kernel
theorem dM_start_34 : decode mM_start.2.1 34 = .ok (.getfield 47, 3) := by decide +kernel
theorem dM_start_37 : decode mM_start.2.1 37 = .ok (.aload_n 0, 1) := by decide +kernel
theorem dM_start_38 : decode mM_start.2.1 38 = .ok (.getfield 137, 3) := by decide +kernel
theorem dM_start_41 : decode mM_start.2.1 41 = .ok (.iload_n 2, 1) := by decide +kernel
theorem dM_start_42 : decode mM_start.2.1 42 = .ok (.bastore, 1) := by decide +kernel
theorem dM_start_43 : decode mM_start.2.1 43 = .ok (.aload_n 0, 1) := by decide +kernel
theorem dM_start_44 : decode mM_start.2.1 44 = .ok (.getfield 51, 3) := by decide +kernel
theorem dM_start_47 : decode mM_start.2.1 47 = .ok (.aload_n 0, 1) := by decide +kernel
theorem dM_start_48 : decode mM_start.2.1 48 = .ok (.getfield 137, 3) := by decide +kernel
theorem dM_start_51 : decode mM_start.2.1 51 = .ok (.iconst 0, 1) := by decide +kernel
theorem dM_start_52 : decode mM_start.2.1 52 = .ok (.bastore, 1) := by decide +kernel
theorem dM_start_53 : decode mM_start.2.1 53 = .ok (.aload_n 0, 1) := by decide +kernel
theorem dM_start_54 : decode mM_start.2.1 54 = .ok (.aload_n 0, 1) := by decide +kernel
theorem dM_start_55 : decode mM_start.2.1 55 = .ok (.getfield 137, 3) := by decide +kernel
theorem dM_start_58 : decode mM_start.2.1 58 = .ok (.putfield 143, 3) := by decide +kernel
theorem dM_start_61 : decode mM_start.2.1 61 = .ok (.aload_n 0, 1) := by decide +kernel
theorem dM_start_62 : decode mM_start.2.1 62 = .ok (.dup, 1) := by decide +kernel
theorem dM_start_63 : decode mM_start.2.1 63 = .ok (.getfield 137, 3) := by decide +kernel
theorem dM_start_66 : decode mM_start.2.1 66 = .ok (.iconst 1, 1) := by decide +kernel
theorem dM_start_67 : decode mM_start.2.1 67 = .ok (.iadd, 1) := by decide +kernel
theorem dM_start_68 : decode mM_start.2.1 68 = .ok (.putfield 137, 3) := by decide +kernel
theorem dM_start_71 : decode mM_start.2.1 71 = .ok (.return_, 1) := by decide +kernel
theorem dM_finish_0 : decode mM_finish.2.1 0 = .ok (.aload_n 0, 1) := by decide +kernel
theorem dM_finish_1 : decode mM_finish.2.1 1 = .ok (.getfield 41, 3) := by decide +kernel
theorem dM_finish_4 : decode mM_finish.2.1 4 = .ok (.iload_n 1, 1) := by decide +kernel
theorem dM_finish_5 : decode mM_finish.2.1 5 = .ok (.iload_n 2, 1) := by decide +kernel
theorem dM_finish_6 : decode mM_finish.2.1 6 = .ok (.iastore, 1) := by decide +kernel
theorem dM_finish_7 : decode mM_finish.2.1 7 = .ok (.aload_n 0, 1) := by decide +kernel
theorem dM_finish_8 : decode mM_finish.2.1 8 = .ok (.iconst 0, 1) := by decide +kernel
theorem dM_finish_9 : decode mM_finish.2.1 9 = .ok (.putfield 134, 3) := by decide +kernel
theorem dM_finish_12 : decode mM_finish.2.1 12 = .ok (.aload_n 0, 1) := by decide +kernel
theorem dM_finish_13 : decode mM_finish.2.1 13 = .ok (.aload_n 0, 1) := by decide +kernel
theorem dM_finish_14 : decode mM_finish.2.1 14 = .ok (.getfield 127, 3) := by decide +kernel
theorem dM_finish_17 : decode mM_finish.2.1 17 = .ok (.ifCond .ne (10), 3) := by decide +kernel
theorem dM_finish_20 : decode mM_finish.2.1 20 = .ok (.aload_n 0, 1) := by decide +kernel
theorem dM_finish_21 : decode mM_finish.2.1 21 = .ok (.getfield 137, 3) := by decide +kernel
theorem dM_finish_24 : decode mM_finish.2.1 24 = .ok (.goto (7), 3) := by decide +kernel
theorem dM_finish_27 : decode mM_finish.2.1 27 = .ok (.aload_n 0, 1) := by decide +kernel
theorem dM_finish_28 : decode mM_finish.2.1 28 = .ok (.getfield 146, 3) := by decide +kernel
theorem dM_finish_31 : decode mM_finish.2.1 31 = .ok (.putfield 146, 3) := by decide +kernel
theorem dM_finish_34 : decode mM_finish.2.1 34 = .ok (.return_, 1) := by decide +kernel
theorem dM_readItem_0 : decode mM_readItem.2.1 0 = .ok (.aload_n 0, 1) := by decide +kernel
theorem dM_readItem_1 : decode mM_readItem.2.1 1 = .ok (.getfield 23, 3) := by decide +kernel
theorem dM_readItem_4 : decode mM_readItem.2.1 4 = .ok (.iload_n 1, 1) := by decide +kernel
theorem dM_readItem_5 : decode mM_readItem.2.1 5 = .ok (.iaload, 1) := by decide +kernel
theorem dM_readItem_6 : decode mM_readItem.2.1 6 = .ok (.ifCond .ne (16), 3) := by decide +kernel
theorem dM_readItem_9 : decode mM_readItem.2.1 9 = .ok (.aload_n 0, 1) := by decide +kernel
theorem dM_readItem_10 : decode mM_readItem.2.1 10 = .ok (.iload_n 1, 1) := by decide +kernel
theorem dM_readItem_11 : decode mM_readItem.2.1 11 = .ok (.iconst 0, 1) := by decide +kernel
theorem dM_readItem_12 : decode mM_readItem.2.1 12 = .ok (.invokevirtual 149, 3) := by decide +kernel
theorem dM_readItem_15 : decode mM_readItem.2.1 15 = .ok (.aload_n 0, 1) := by decide +kernel
theorem dM_readItem_16 : decode mM_readItem.2.1 16 = .ok (.iconst 1, 1) := by decide +kernel
theorem dM_readItem_17 : decode mM_readItem.2.1 17 = .ok (.putfield 134, 3) := by decide +kernel
theorem dM_readItem_20 : decode mM_readItem.2.1 20 = .ok (.iconst 1, 1) := by decide +kernel
theorem dM_readItem_21 : decode mM_readItem.2.1 21 = .ok (.ireturn, 1) := by decide +kernel
theorem dM_readItem_22 : decode mM_readItem.2.1 22 = .ok (.aload_n 0, 1) := by decide +kernel
theorem dM_readItem_23 : decode mM_readItem.2.1 23 = .ok (.iload_n 1, 1) := by decide +kernel
theorem dM_readItem_24 : decode mM_readItem.2.1 24 = .ok (.bipush (123), 2) := by decide +kernel
theorem dM_readItem_26 : decode mM_readItem.2.1 26 = .ok (.invokevirtual 153, 3) := by decide +kernel
theorem dM_readItem_29 : decode mM_readItem.2.1 29 = .ok (.ifCond .eq (44), 3) := by decide +kernel
theorem dM_readItem_32 : decode mM_readItem.2.1 32 = .ok (.aload_n 0, 1) := by decide +kernel
theorem dM_readItem_33 : decode mM_readItem.2.1 33 = .ok (.iconst 1, 1) := by decide +kernel
theorem dM_readItem_34 : decode mM_readItem.2.1 34 = .ok (.invokevirtual 157, 3) := by decide +kernel
theorem dM_readItem_37 : decode mM_readItem.2.1 37 = .ok (.ifCond .eq (36), 3) := by decide +kernel
theorem dM_readItem_40 : decode mM_readItem.2.1 40 = .ok (.aload_n 0, 1) := by decide +kernel
theorem dM_readItem_41 : decode mM_readItem.2.1 41 = .ok (.iload_n 1, 1) := by decide +kernel
theorem dM_readItem_42 : decode mM_readItem.2.1 42 = .ok (.iconst 1, 1) := by decide +kernel
theorem dM_readItem_43 : decode mM_readItem.2.1 43 = .ok (.invokevirtual 149, 3) := by decide +kernel
theorem dM_readItem_46 : decode mM_readItem.2.1 46 = .ok (.aload_n 0, 1) := by decide +kernel
theorem dM_readItem_47 : decode mM_readItem.2.1 47 = .ok (.getfield 76, 3) := by decide +kernel
theorem dM_readItem_50 : decode mM_readItem.2.1 50 = .ok (.aload_n 0, 1) := by decide +kernel
theorem dM_readItem_51 : decode mM_readItem.2.1 51 = .ok (.getfield 140, 3) := by decide +kernel
theorem dM_readItem_54 : decode mM_readItem.2.1 54 = .ok (.aload_n 0, 1) := by decide +kernel
theorem dM_readItem_55 : decode mM_readItem.2.1 55 = .ok (.getfield 137, 3) := by decide +kernel
theorem dM_readItem_58 : decode mM_readItem.2.1 58 = .ok (.iconst 1, 1) := by decide +kernel
theorem dM_readItem_59 : decode mM_readItem.2.1 59 = .ok (.isub, 1) := by decide +kernel
theorem dM_readItem_60 : decode mM_readItem.2.1 60 = .ok (.iastore, 1) := by decide +kernel
theorem dM_readItem_61 : decode mM_readItem.2.1 61 = .ok (.aload_n 0, 1) := by decide +kernel
theorem dM_readItem_62 : decode mM_readItem.2.1 62 = .ok (.dup, 1) := by decide +kernel
theorem dM_readItem_63 : decode mM_readItem.2.1 63 = .ok (.getfield 140, 3) := by decide +kernel
theorem dM_readItem_66 : decode mM_readItem.2.1 66 = .ok (.iconst 1, 1) := by decide +kernel
theorem dM_readItem_67 : decode mM_readItem.2.1 67 = .ok (.iadd, 1) := by decide +kernel
theorem dM_readItem_68 : decode mM_readItem.2.1 68 = .ok (.putfield 140, 3) := by decide +kernel
theorem dM_readItem_71 : decode mM_readItem.2.1 71 = .ok (.iconst 1, 1) := by decide +kernel
theorem dM_readItem_72 : decode mM_readItem.2.1 72 = .ok (.ireturn, 1) := by decide +kernel
theorem dM_readItem_73 : decode mM_readItem.2.1 73 = .ok (.aload_n 0, 1) := by decide +kernel
theorem dM_readItem_74 : decode mM_readItem.2.1 74 = .ok (.iload_n 1, 1) := by decide +kernel
theorem dM_readItem_75 : decode mM_readItem.2.1 75 = .ok (.bipush (125), 2) := by decide +kernel
theorem dM_readItem_77 : decode mM_readItem.2.1 77 = .ok (.invokevirtual 153, 3) := by decide +kernel
theorem dM_readItem_80 : decode mM_readItem.2.1 80 = .ok (.ifCond .eq (47), 3) := by decide +kernel
theorem dM_readItem_83 : decode mM_readItem.2.1 83 = .ok (.aload_n 0, 1) := by decide +kernel
theorem dM_readItem_84 : decode mM_readItem.2.1 84 = .ok (.invokevirtual 130, 3) := by decide +kernel
theorem dM_readItem_87 : decode mM_readItem.2.1 87 = .ok (.iconst 1, 1) := by decide +kernel
theorem dM_readItem_88 : decode mM_readItem.2.1 88 = .ok (.if_icmp .ne (39), 3) := by decide +kernel
theorem dM_readItem_91 : decode mM_readItem.2.1 91 = .ok (.aload_n 0, 1) := by decide +kernel
theorem dM_readItem_92 : decode mM_readItem.2.1 92 = .ok (.dup, 1) := by decide +kernel
theorem dM_readItem_93 : decode mM_readItem.2.1 93 = .ok (.getfield 127, 3) := by decide +kernel
theorem dM_readItem_96 : decode mM_readItem.2.1 96 = .ok (.iconst 1, 1) := by decide +kernel
theorem dM_readItem_97 : decode mM_readItem.2.1 97 = .ok (.isub, 1) := by decide +kernel
theorem dM_readItem_98 : decode mM_readItem.2.1 98 = .ok (.putfield 127, 3) := by decide +kernel
theorem dM_readItem_101 : decode mM_readItem.2.1 101 = .ok (.aload_n 0, 1) := by decide +kernel
theorem dM_readItem_102 : decode mM_readItem.2.1 102 = .ok (.dup, 1) := by decide +kernel
theorem dM_readItem_103 : decode mM_readItem.2.1 103 = .ok (.getfield 140, 3) := by decide +kernel
theorem dM_readItem_106 : decode mM_readItem.2.1 106 = .ok (.iconst 1, 1) := by decide +kernel
theorem dM_readItem_107 : decode mM_readItem.2.1 107 = .ok (.isub, 1) := by decide +kernel
theorem dM_readItem_108 : decode mM_readItem.2.1 108 = .ok (.putfield 140, 3) := by decide +kernel
theorem dM_readItem_111 : decode mM_readItem.2.1 111 = .ok (.aload_n 0, 1) := by decide +kernel
theorem dM_readItem_112 : decode mM_readItem.2.1 112 = .ok (.aload_n 0, 1) := by decide +kernel
theorem dM_readItem_113 : decode mM_readItem.2.1 113 = .ok (.getfield 76, 3) := by decide +kernel
theorem dM_readItem_116 : decode mM_readItem.2.1 116 = .ok (.aload_n 0, 1) := by decide +kernel
theorem dM_readItem_117 : decode mM_readItem.2.1 117 = .ok (.getfield 140, 3) := by decide +kernel
theorem dM_readItem_120 : decode mM_readItem.2.1 120 = .ok (.iaload, 1) := by decide +kernel
theorem dM_readItem_121 : decode mM_readItem.2.1 121 = .ok (.iload_n 1, 1) := by decide +kernel
theorem dM_readItem_122 : decode mM_readItem.2.1 122 = .ok (.invokevirtual 161, 3) := by decide +kernel
theorem dM_readItem_125 : decode mM_readItem.2.1 125 = .ok (.iconst 1, 1) := by decide +kernel
theorem dM_readItem_126 : decode mM_readItem.2.1 126 = .ok (.ireturn, 1) := by decide +kernel
theorem dM_readItem_127 : decode mM_readItem.2.1 127 = .ok (.iconst 0, 1) := by decide +kernel
theorem dM_readItem_128 : decode mM_readItem.2.1 128 = .ok (.ireturn, 1) := by decide +kernel
theorem dM_readNamed_0 : decode mM_readNamed.2.1 0 = .ok (.aload_n 0, 1) := by decide +kernel
theorem dM_readNamed_1 : decode mM_readNamed.2.1 1 = .ok (.iload_n 1, 1) := by decide +kernel
theorem dM_readNamed_2 : decode mM_readNamed.2.1 2 = .ok (.bipush (61), 2) := by decide +kernel
theorem dM_readNamed_4 : decode mM_readNamed.2.1 4 = .ok (.invokevirtual 153, 3) := by decide +kernel
theorem dM_readNamed_7 : decode mM_readNamed.2.1 7 = .ok (.ifCond .eq (20), 3) := by decide +kernel
theorem dM_readNamed_10 : decode mM_readNamed.2.1 10 = .ok (.aload_n 0, 1) := by decide +kernel
theorem dM_readNamed_11 : decode mM_readNamed.2.1 11 = .ok (.getfield 51, 3) := by decide +kernel
theorem dM_readNamed_14 : decode mM_readNamed.2.1 14 = .ok (.aload_n 0, 1) := by decide +kernel
theorem dM_readNamed_15 : decode mM_readNamed.2.1 15 = .ok (.getfield 143, 3) := by decide +kernel
theorem dM_readNamed_18 : decode mM_readNamed.2.1 18 = .ok (.iconst 1, 1) := by decide +kernel
theorem dM_readNamed_19 : decode mM_readNamed.2.1 19 = .ok (.bastore, 1) := by decide +kernel
theorem dM_readNamed_20 : decode mM_readNamed.2.1 20 = .ok (.aload_n 0, 1) := by decide +kernel
theorem dM_readNamed_21 : decode mM_readNamed.2.1 21 = .ok (.iconst 2, 1) := by decide +kernel
theorem dM_readNamed_22 : decode mM_readNamed.2.1 22 = .ok (.putfield 134, 3) := by decide +kernel
theorem dM_readNamed_25 : decode mM_readNamed.2.1 25 = .ok (.iconst 1, 1) := by decide +kernel
theorem dM_readNamed_26 : decode mM_readNamed.2.1 26 = .ok (.ireturn, 1) := by decide +kernel
theorem dM_readNamed_27 : decode mM_readNamed.2.1 27 = .ok (.aload_n 0, 1) := by decide +kernel
theorem dM_readNamed_28 : decode mM_readNamed.2.1 28 = .ok (.iconst 3, 1) := by decide +kernel
theorem dM_readNamed_29 : decode mM_readNamed.2.1 29 = .ok (.putfield 134, 3) := by decide +kernel
theorem dM_readNamed_32 : decode mM_readNamed.2.1 32 = .ok (.aload_n 0, 1) := by decide +kernel
theorem dM_readNamed_33 : decode mM_readNamed.2.1 33 = .ok (.iload_n 1, 1) := by decide +kernel
theorem dM_readNamed_34 : decode mM_readNamed.2.1 34 = .ok (.bipush (40), 2) := by decide +kernel
theorem dM_readNamed_36 : decode mM_readNamed.2.1 36 = .ok (.invokevirtual 153, 3) := by decide +kernel
theorem dM_readNamed_39 : decode mM_readNamed.2.1 39 = .ok (.ifCond .eq (15), 3) := by decide +kernel
theorem dM_readNamed_42 : decode mM_readNamed.2.1 42 = .ok (.aload_n 0, 1) := by decide +kernel
theorem dM_readNamed_43 : decode mM_readNamed.2.1 43 = .ok (.iconst 5, 1) := by decide +kernel
theorem dM_readNamed_44 : decode mM_readNamed.2.1 44 = .ok (.invokevirtual 157, 3) := by decide +kernel
theorem dM_readNamed_47 : decode mM_readNamed.2.1 47 = .ok (.ifCond .eq (7), 3) := by decide +kernel
theorem dM_readNamed_50 : decode mM_readNamed.2.1 50 = .ok (.iconst 1, 1) := by decide +kernel
theorem dM_readNamed_51 : decode mM_readNamed.2.1 51 = .ok (.goto (4), 3) := by decide +kernel
theorem dM_readNamed_54 : decode mM_readNamed.2.1 54 = .ok (.iconst 0, 1) := by decide +kernel
theorem dM_readNamed_55 : decode mM_readNamed.2.1 55 = .ok (.ireturn, 1) := by decide +kernel
theorem dM_readFactor_0 : decode mM_readFactor.2.1 0 = .ok (.aload_n 0, 1) := by decide +kernel
theorem dM_readFactor_1 : decode mM_readFactor.2.1 1 = .ok (.getfield 23, 3) := by decide +kernel
theorem dM_readFactor_4 : decode mM_readFactor.2.1 4 = .ok (.iload_n 1, 1) := by decide +kernel
theorem dM_readFactor_5 : decode mM_readFactor.2.1 5 = .ok (.iaload, 1) := by decide +kernel
theorem dM_readFactor_6 : decode mM_readFactor.2.1 6 = .ok (.iconst 1, 1) := by decide +kernel
theorem dM_readFactor_7 : decode mM_readFactor.2.1 7 = .ok (.if_icmp .eq (13), 3) := by decide +kernel
theorem dM_readFactor_10 : decode mM_readFactor.2.1 10 = .ok (.aload_n 0, 1) := by decide +kernel
theorem dM_readFactor_11 : decode mM_readFactor.2.1 11 = .ok (.getfield 23, 3) := by decide +kernel
theorem dM_readFactor_14 : decode mM_readFactor.2.1 14 = .ok (.iload_n 1, 1) := by decide +kernel
theorem dM_readFactor_15 : decode mM_readFactor.2.1 15 = .ok (.iaload, 1) := by decide +kernel
theorem dM_readFactor_16 : decode mM_readFactor.2.1 16 = .ok (.iconst 2, 1) := by decide +kernel
theorem dM_readFactor_17 : decode mM_readFactor.2.1 17 = .ok (.if_icmp .ne (9), 3) := by decide +kernel
theorem dM_readFactor_20 : decode mM_readFactor.2.1 20 = .ok (.aload_n 0, 1) := by decide +kernel
theorem dM_readFactor_21 : decode mM_readFactor.2.1 21 = .ok (.invokevirtual 165, 3) := by decide +kernel
theorem dM_readFactor_24 : decode mM_readFactor.2.1 24 = .ok (.iconst 1, 1) := by decide +kernel
theorem dM_readFactor_25 : decode mM_readFactor.2.1 25 = .ok (.ireturn, 1) := by decide +kernel
theorem dM_readFactor_26 : decode mM_readFactor.2.1 26 = .ok (.aload_n 0, 1) := by decide +kernel
theorem dM_readFactor_27 : decode mM_readFactor.2.1 27 = .ok (.getfield 23, 3) := by decide +kernel
theorem dM_readFactor_30 : decode mM_readFactor.2.1 30 = .ok (.iload_n 1, 1) := by decide +kernel
theorem dM_readFactor_31 : decode mM_readFactor.2.1 31 = .ok (.iaload, 1) := by decide +kernel
theorem dM_readFactor_32 : decode mM_readFactor.2.1 32 = .ok (.ifCond .ne (10), 3) := by decide +kernel
theorem dM_readFactor_35 : decode mM_readFactor.2.1 35 = .ok (.aload_n 0, 1) := by decide +kernel
theorem dM_readFactor_36 : decode mM_readFactor.2.1 36 = .ok (.iconst 4, 1) := by decide +kernel
theorem dM_readFactor_37 : decode mM_readFactor.2.1 37 = .ok (.putfield 134, 3) := by decide +kernel
theorem dM_readFactor_40 : decode mM_readFactor.2.1 40 = .ok (.iconst 1, 1) := by decide +kernel
theorem dM_readFactor_41 : decode mM_readFactor.2.1 41 = .ok (.ireturn, 1) := by decide +kernel
theorem dM_readFactor_42 : decode mM_readFactor.2.1 42 = .ok (.aload_n 0, 1) := by decide +kernel
theorem dM_readFactor_43 : decode mM_readFactor.2.1 43 = .ok (.iconst 2, 1) := by decide +kernel
theorem dM_readFactor_44 : decode mM_readFactor.2.1 44 = .ok (.putfield 134, 3) := by decide +kernel
theorem dM_readFactor_47 : decode mM_readFactor.2.1 47 = .ok (.aload_n 0, 1) := by decide +kernel
theorem dM_readFactor_48 : decode mM_readFactor.2.1 48 = .ok (.iload_n 1, 1) := by decide +kernel
theorem dM_readFactor_49 : decode mM_readFactor.2.1 49 = .ok (.bipush (40), 2) := by decide +kernel
theorem dM_readFactor_51 : decode mM_readFactor.2.1 51 = .ok (.invokevirtual 153, 3) := by decide +kernel
theorem dM_readFactor_54 : decode mM_readFactor.2.1 54 = .ok (.ifCond .eq (11), 3) := by decide +kernel
theorem dM_readFactor_57 : decode mM_readFactor.2.1 57 = .ok (.aload_n 0, 1) := by decide +kernel
theorem dM_readFactor_58 : decode mM_readFactor.2.1 58 = .ok (.iconst 2, 1) := by decide +kernel
theorem dM_readFactor_59 : decode mM_readFactor.2.1 59 = .ok (.invokevirtual 157, 3) := by decide +kernel
theorem dM_readFactor_62 : decode mM_readFactor.2.1 62 = .ok (.ifCond .ne (21), 3) := by decide +kernel
theorem dM_readFactor_65 : decode mM_readFactor.2.1 65 = .ok (.aload_n 0, 1) := by decide +kernel
theorem dM_readFactor_66 : decode mM_readFactor.2.1 66 = .ok (.iload_n 1, 1) := by decide +kernel
theorem dM_readFactor_67 : decode mM_readFactor.2.1 67 = .ok (.bipush (45), 2) := by decide +kernel
theorem dM_readFactor_69 : decode mM_readFactor.2.1 69 = .ok (.invokevirtual 153, 3) := by decide +kernel
theorem dM_readFactor_72 : decode mM_readFactor.2.1 72 = .ok (.ifCond .eq (15), 3) := by decide +kernel
theorem dM_readFactor_75 : decode mM_readFactor.2.1 75 = .ok (.aload_n 0, 1) := by decide +kernel
theorem dM_readFactor_76 : decode mM_readFactor.2.1 76 = .ok (.iconst 4, 1) := by decide +kernel
theorem dM_readFactor_77 : decode mM_readFactor.2.1 77 = .ok (.invokevirtual 157, 3) := by decide +kernel
theorem dM_readFactor_80 : decode mM_readFactor.2.1 80 = .ok (.ifCond .eq (7), 3) := by decide +kernel
theorem dM_readFactor_83 : decode mM_readFactor.2.1 83 = .ok (.iconst 1, 1) := by decide +kernel
theorem dM_readFactor_84 : decode mM_readFactor.2.1 84 = .ok (.goto (4), 3) := by decide +kernel
theorem dM_readFactor_87 : decode mM_readFactor.2.1 87 = .ok (.iconst 0, 1) := by decide +kernel
theorem dM_readFactor_88 : decode mM_readFactor.2.1 88 = .ok (.ireturn, 1) := by decide +kernel
theorem dM_close_0 : decode mM_close.2.1 0 = .ok (.aload_n 0, 1) := by decide +kernel
theorem dM_close_1 : decode mM_close.2.1 1 = .ok (.invokevirtual 130, 3) := by decide +kernel
theorem dM_close_4 : decode mM_close.2.1 4 = .ok (.istore_n 1, 1) := by decide +kernel
theorem dM_close_5 : decode mM_close.2.1 5 = .ok (.aload_n 0, 1) := by decide +kernel
theorem dM_close_6 : decode mM_close.2.1 6 = .ok (.dup, 1) := by decide +kernel
theorem dM_close_7 : decode mM_close.2.1 7 = .ok (.getfield 127, 3) := by decide +kernel
theorem dM_close_10 : decode mM_close.2.1 10 = .ok (.iconst 1, 1) := by decide +kernel
theorem dM_close_11 : decode mM_close.2.1 11 = .ok (.isub, 1) := by decide +kernel
theorem dM_close_12 : decode mM_close.2.1 12 = .ok (.putfield 127, 3) := by decide +kernel
theorem dM_close_15 : decode mM_close.2.1 15 = .ok (.iload_n 1, 1) := by decide +kernel
theorem dM_close_16 : decode mM_close.2.1 16 = .ok (.iconst 5, 1) := by decide +kernel
theorem dM_close_17 : decode mM_close.2.1 17 = .ok (.if_icmp .ne (12), 3) := by decide +kernel
theorem dM_close_20 : decode mM_close.2.1 20 = .ok (.aload_n 0, 1) := by decide +kernel
theorem dM_close_21 : decode mM_close.2.1 21 = .ok (.bipush (6), 2) := by decide +kernel
theorem dM_close_23 : decode mM_close.2.1 23 = .ok (.putfield 134, 3) := by decide +kernel
theorem dM_close_26 : decode mM_close.2.1 26 = .ok (.goto (7), 3) := by decide +kernel
theorem dM_close_29 : decode mM_close.2.1 29 = .ok (.aload_n 0, 1) := by decide +kernel
theorem dM_close_30 : decode mM_close.2.1 30 = .ok (.invokevirtual 165, 3) := by decide +kernel
theorem dM_close_33 : decode mM_close.2.1 33 = .ok (.iconst 1, 1) := by decide +kernel
theorem dM_close_34 : decode mM_close.2.1 34 = .ok (.ireturn, 1) := by decide +kernel
theorem dM_readBehind_0 : decode mM_readBehind.2.1 0 = .ok (.aload_n 0, 1) := by decide +kernel
theorem dM_readBehind_1 : decode mM_readBehind.2.1 1 = .ok (.invokevirtual 130, 3) := by decide +kernel
theorem dM_readBehind_4 : decode mM_readBehind.2.1 4 = .ok (.istore_n 2, 1) := by decide +kernel
theorem dM_readBehind_5 : decode mM_readBehind.2.1 5 = .ok (.iload_n 2, 1) := by decide +kernel
theorem dM_readBehind_6 : decode mM_readBehind.2.1 6 = .ok (.iconst 2, 1) := by decide +kernel
theorem dM_readBehind_7 : decode mM_readBehind.2.1 7 = .ok (.if_icmp .eq (13), 3) := by decide +kernel
theorem dM_readBehind_10 : decode mM_readBehind.2.1 10 = .ok (.iload_n 2, 1) := by decide +kernel
theorem dM_readBehind_11 : decode mM_readBehind.2.1 11 = .ok (.iconst 3, 1) := by decide +kernel
theorem dM_readBehind_12 : decode mM_readBehind.2.1 12 = .ok (.if_icmp .eq (8), 3) := by decide +kernel
theorem dM_readBehind_15 : decode mM_readBehind.2.1 15 = .ok (.iload_n 2, 1) := by decide +kernel
theorem dM_readBehind_16 : decode mM_readBehind.2.1 16 = .ok (.iconst 5, 1) := by decide +kernel
theorem dM_readBehind_17 : decode mM_readBehind.2.1 17 = .ok (.if_icmp .ne (7), 3) := by decide +kernel
theorem dM_readBehind_20 : decode mM_readBehind.2.1 20 = .ok (.iconst 1, 1) := by decide +kernel
theorem dM_readBehind_21 : decode mM_readBehind.2.1 21 = .ok (.goto (4), 3) := by decide +kernel
theorem dM_readBehind_24 : decode mM_readBehind.2.1 24 = .ok (.iconst 0, 1) := by decide +kernel
theorem dM_readBehind_25 : decode mM_readBehind.2.1 25 = .ok (.istore_n 3, 1) := by decide +kernel
theorem dM_readBehind_26 : decode mM_readBehind.2.1 26 = .ok (.aload_n 0, 1) := by decide +kernel
theorem dM_readBehind_27 : decode mM_readBehind.2.1 27 = .ok (.iload_n 1, 1) := by decide +kernel
theorem dM_readBehind_28 : decode mM_readBehind.2.1 28 = .ok (.bipush (43), 2) := by decide +kernel
theorem dM_readBehind_30 : decode mM_readBehind.2.1 30 = .ok (.invokevirtual 153, 3) := by decide +kernel
theorem dM_readBehind_33 : decode mM_readBehind.2.1 33 = .ok (.ifCond .ne (42), 3) := by decide +kernel
theorem dM_readBehind_36 : decode mM_readBehind.2.1 36 = .ok (.aload_n 0, 1) := by decide +kernel
theorem dM_readBehind_37 : decode mM_readBehind.2.1 37 = .ok (.iload_n 1, 1) := by decide +kernel
theorem dM_readBehind_38 : decode mM_readBehind.2.1 38 = .ok (.bipush (45), 2) := by decide +kernel
theorem dM_readBehind_40 : decode mM_readBehind.2.1 40 = .ok (.invokevirtual 153, 3) := by decide +kernel
theorem dM_readBehind_43 : decode mM_readBehind.2.1 43 = .ok (.ifCond .ne (32), 3) := by decide +kernel
theorem dM_readBehind_46 : decode mM_readBehind.2.1 46 = .ok (.aload_n 0, 1) := by decide +kernel
theorem dM_readBehind_47 : decode mM_readBehind.2.1 47 = .ok (.iload_n 1, 1) := by decide +kernel
theorem dM_readBehind_48 : decode mM_readBehind.2.1 48 = .ok (.bipush (42), 2) := by decide +kernel
theorem dM_readBehind_50 : decode mM_readBehind.2.1 50 = .ok (.invokevirtual 153, 3) := by decide +kernel
theorem dM_readBehind_53 : decode mM_readBehind.2.1 53 = .ok (.ifCond .ne (22), 3) := by decide +kernel
theorem dM_readBehind_56 : decode mM_readBehind.2.1 56 = .ok (.aload_n 0, 1) := by decide +kernel
theorem dM_readBehind_57 : decode mM_readBehind.2.1 57 = .ok (.iload_n 1, 1) := by decide +kernel
theorem dM_readBehind_58 : decode mM_readBehind.2.1 58 = .ok (.bipush (44), 2) := by decide +kernel
theorem dM_readBehind_60 : decode mM_readBehind.2.1 60 = .ok (.invokevirtual 153, 3) := by decide +kernel
theorem dM_readBehind_63 : decode mM_readBehind.2.1 63 = .ok (.ifCond .eq (19), 3) := by decide +kernel
theorem dM_readBehind_66 : decode mM_readBehind.2.1 66 = .ok (.iload_n 3, 1) := by decide +kernel
theorem dM_readBehind_67 : decode mM_readBehind.2.1 67 = .ok (.ifCond .eq (15), 3) := by decide +kernel
theorem dM_readBehind_70 : decode mM_readBehind.2.1 70 = .ok (.iload_n 2, 1) := by decide +kernel
theorem dM_readBehind_71 : decode mM_readBehind.2.1 71 = .ok (.iconst 2, 1) := by decide +kernel
theorem dM_readBehind_72 : decode mM_readBehind.2.1 72 = .ok (.if_icmp .eq (10), 3) := by decide +kernel
theorem dM_readBehind_75 : decode mM_readBehind.2.1 75 = .ok (.aload_n 0, 1) := by decide +kernel
theorem dM_readBehind_76 : decode mM_readBehind.2.1 76 = .ok (.iconst 2, 1) := by decide +kernel
theorem dM_readBehind_77 : decode mM_readBehind.2.1 77 = .ok (.putfield 134, 3) := by decide +kernel
theorem dM_readBehind_80 : decode mM_readBehind.2.1 80 = .ok (.iconst 1, 1) := by decide +kernel
theorem dM_readBehind_81 : decode mM_readBehind.2.1 81 = .ok (.ireturn, 1) := by decide +kernel
theorem dM_readBehind_82 : decode mM_readBehind.2.1 82 = .ok (.aload_n 0, 1) := by decide +kernel
theorem dM_readBehind_83 : decode mM_readBehind.2.1 83 = .ok (.iload_n 1, 1) := by decide +kernel
theorem dM_readBehind_84 : decode mM_readBehind.2.1 84 = .ok (.bipush (41), 2) := by decide +kernel
theorem dM_readBehind_86 : decode mM_readBehind.2.1 86 = .ok (.invokevirtual 153, 3) := by decide +kernel
theorem dM_readBehind_89 : decode mM_readBehind.2.1 89 = .ok (.ifCond .eq (12), 3) := by decide +kernel
theorem dM_readBehind_92 : decode mM_readBehind.2.1 92 = .ok (.iload_n 3, 1) := by decide +kernel
theorem dM_readBehind_93 : decode mM_readBehind.2.1 93 = .ok (.ifCond .eq (8), 3) := by decide +kernel
theorem dM_readBehind_96 : decode mM_readBehind.2.1 96 = .ok (.aload_n 0, 1) := by decide +kernel
theorem dM_readBehind_97 : decode mM_readBehind.2.1 97 = .ok (.invokevirtual 168, 3) := by decide +kernel
theorem dM_readBehind_100 : decode mM_readBehind.2.1 100 = .ok (.ireturn, 1) := by decide +kernel
theorem dM_readBehind_101 : decode mM_readBehind.2.1 101 = .ok (.aload_n 0, 1) := by decide +kernel
theorem dM_readBehind_102 : decode mM_readBehind.2.1 102 = .ok (.iload_n 1, 1) := by decide +kernel
theorem dM_readBehind_103 : decode mM_readBehind.2.1 103 = .ok (.bipush (59), 2) := by decide +kernel
theorem dM_readBehind_105 : decode mM_readBehind.2.1 105 = .ok (.invokevirtual 153, 3) := by decide +kernel
theorem dM_readBehind_108 : decode mM_readBehind.2.1 108 = .ok (.ifCond .eq (18), 3) := by decide +kernel
theorem dM_readBehind_111 : decode mM_readBehind.2.1 111 = .ok (.iload_n 3, 1) := by decide +kernel
theorem dM_readBehind_112 : decode mM_readBehind.2.1 112 = .ok (.ifCond .ne (14), 3) := by decide +kernel
theorem dM_readBehind_115 : decode mM_readBehind.2.1 115 = .ok (.aload_n 0, 1) := by decide +kernel
theorem dM_readBehind_116 : decode mM_readBehind.2.1 116 = .ok (.aload_n 0, 1) := by decide +kernel
theorem dM_readBehind_117 : decode mM_readBehind.2.1 117 = .ok (.getfield 143, 3) := by decide +kernel
theorem dM_readBehind_120 : decode mM_readBehind.2.1 120 = .ok (.iload_n 1, 1) := by decide +kernel
theorem dM_readBehind_121 : decode mM_readBehind.2.1 121 = .ok (.invokevirtual 161, 3) := by decide +kernel
theorem dM_readBehind_124 : decode mM_readBehind.2.1 124 = .ok (.iconst 1, 1) := by decide +kernel
theorem dM_readBehind_125 : decode mM_readBehind.2.1 125 = .ok (.ireturn, 1) := by decide +kernel
theorem dM_readBehind_126 : decode mM_readBehind.2.1 126 = .ok (.iconst 0, 1) := by decide +kernel
theorem dM_readBehind_127 : decode mM_readBehind.2.1 127 = .ok (.ireturn, 1) := by decide +kernel
theorem dM_readToken_0 : decode mM_readToken.2.1 0 = .ok (.aload_n 0, 1) := by decide +kernel
theorem dM_readToken_1 : decode mM_readToken.2.1 1 = .ok (.getfield 134, 3) := by decide +kernel
theorem dM_readToken_4 : decode mM_readToken.2.1 4 = .ok (.iconst 4, 1) := by decide +kernel
theorem dM_readToken_5 : decode mM_readToken.2.1 5 = .ok (.if_icmp .ne (24), 3) := by decide +kernel
theorem dM_readToken_8 : decode mM_readToken.2.1 8 = .ok (.aload_n 0, 1) := by decide +kernel
theorem dM_readToken_9 : decode mM_readToken.2.1 9 = .ok (.iload_n 1, 1) := by decide +kernel
theorem dM_readToken_10 : decode mM_readToken.2.1 10 = .ok (.bipush (40), 2) := by decide +kernel
theorem dM_readToken_12 : decode mM_readToken.2.1 12 = .ok (.invokevirtual 153, 3) := by decide +kernel
theorem dM_readToken_15 : decode mM_readToken.2.1 15 = .ok (.ifCond .eq (14), 3) := by decide +kernel
theorem dM_readToken_18 : decode mM_readToken.2.1 18 = .ok (.aload_n 0, 1) := by decide +kernel
theorem dM_readToken_19 : decode mM_readToken.2.1 19 = .ok (.iconst 3, 1) := by decide +kernel
theorem dM_readToken_20 : decode mM_readToken.2.1 20 = .ok (.putfield 134, 3) := by decide +kernel
theorem dM_readToken_23 : decode mM_readToken.2.1 23 = .ok (.aload_n 0, 1) := by decide +kernel
theorem dM_readToken_24 : decode mM_readToken.2.1 24 = .ok (.iconst 3, 1) := by decide +kernel
theorem dM_readToken_25 : decode mM_readToken.2.1 25 = .ok (.invokevirtual 157, 3) := by decide +kernel
theorem dM_readToken_28 : decode mM_readToken.2.1 28 = .ok (.ireturn, 1) := by decide +kernel
theorem dM_readToken_29 : decode mM_readToken.2.1 29 = .ok (.aload_n 0, 1) := by decide +kernel
theorem dM_readToken_30 : decode mM_readToken.2.1 30 = .ok (.getfield 134, 3) := by decide +kernel
theorem dM_readToken_33 : decode mM_readToken.2.1 33 = .ok (.iconst 4, 1) := by decide +kernel
theorem dM_readToken_34 : decode mM_readToken.2.1 34 = .ok (.if_icmp .ne (7), 3) := by decide +kernel
theorem dM_readToken_37 : decode mM_readToken.2.1 37 = .ok (.aload_n 0, 1) := by decide +kernel
theorem dM_readToken_38 : decode mM_readToken.2.1 38 = .ok (.invokevirtual 165, 3) := by decide +kernel
theorem dM_readToken_41 : decode mM_readToken.2.1 41 = .ok (.aload_n 0, 1) := by decide +kernel
theorem dM_readToken_42 : decode mM_readToken.2.1 42 = .ok (.getfield 134, 3) := by decide +kernel
theorem dM_readToken_45 : decode mM_readToken.2.1 45 = .ok (.tableswitch (86) (0) (5) #[39, 45, 51, 57, 86, 80], 39) := by decide +kernel
theorem dM_readToken_84 : decode mM_readToken.2.1 84 = .ok (.aload_n 0, 1) := by decide +kernel
theorem dM_readToken_85 : decode mM_readToken.2.1 85 = .ok (.iload_n 1, 1) := by decide +kernel
theorem dM_readToken_86 : decode mM_readToken.2.1 86 = .ok (.invokevirtual 172, 3) := by decide +kernel
theorem dM_readToken_89 : decode mM_readToken.2.1 89 = .ok (.ireturn, 1) := by decide +kernel
theorem dM_readToken_90 : decode mM_readToken.2.1 90 = .ok (.aload_n 0, 1) := by decide +kernel
theorem dM_readToken_91 : decode mM_readToken.2.1 91 = .ok (.iload_n 1, 1) := by decide +kernel
theorem dM_readToken_92 : decode mM_readToken.2.1 92 = .ok (.invokevirtual 175, 3) := by decide +kernel
theorem dM_readToken_95 : decode mM_readToken.2.1 95 = .ok (.ireturn, 1) := by decide +kernel
theorem dM_readToken_96 : decode mM_readToken.2.1 96 = .ok (.aload_n 0, 1) := by decide +kernel
theorem dM_readToken_97 : decode mM_readToken.2.1 97 = .ok (.iload_n 1, 1) := by decide +kernel
theorem dM_readToken_98 : decode mM_readToken.2.1 98 = .ok (.invokevirtual 178, 3) := by decide +kernel
theorem dM_readToken_101 : decode mM_readToken.2.1 101 = .ok (.ireturn, 1) := by decide +kernel
theorem dM_readToken_102 : decode mM_readToken.2.1 102 = .ok (.aload_n 0, 1) := by decide +kernel
theorem dM_readToken_103 : decode mM_readToken.2.1 103 = .ok (.iload_n 1, 1) := by decide +kernel
theorem dM_readToken_104 : decode mM_readToken.2.1 104 = .ok (.bipush (41), 2) := by decide +kernel
theorem dM_readToken_106 : decode mM_readToken.2.1 106 = .ok (.invokevirtual 153, 3) := by decide +kernel
theorem dM_readToken_109 : decode mM_readToken.2.1 109 = .ok (.ifCond .eq (10), 3) := by decide +kernel
theorem dM_readToken_112 : decode mM_readToken.2.1 112 = .ok (.aload_n 0, 1) := by decide +kernel
