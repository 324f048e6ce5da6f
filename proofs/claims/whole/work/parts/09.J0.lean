theorem dJ_indexOf1_0 : decode mJ_indexOf1.2.1 0 = .ok (.aload_n 0, 1) := by decide +kernel
theorem dJ_indexOf1_1 : decode mJ_indexOf1.2.1 1 = .ok (.iload_n 1, 1) := by decide +kernel
theorem dJ_indexOf1_2 : decode mJ_indexOf1.2.1 2 = .ok (.iconst 0, 1) := by decide +kernel
theorem dJ_indexOf1_3 : decode mJ_indexOf1.2.1 3 = .ok (.invokevirtual 633, 3) := by decide +kernel
theorem dJ_indexOf1_6 : decode mJ_indexOf1.2.1 6 = .ok (.ireturn, 1) := by decide +kernel
theorem dJ_indexOf2_0 : decode mJ_indexOf2.2.1 0 = .ok (.aload_n 0, 1) := by decide +kernel
theorem dJ_indexOf2_1 : decode mJ_indexOf2.2.1 1 = .ok (.invokevirtual 492, 3) := by decide +kernel
theorem dJ_indexOf2_4 : decode mJ_indexOf2.2.1 4 = .ok (.ifCond .eq (19), 3) := by decide +kernel
theorem dJ_indexOf2_7 : decode mJ_indexOf2.2.1 7 = .ok (.aload_n 0, 1) := by decide +kernel
theorem dJ_indexOf2_8 : decode mJ_indexOf2.2.1 8 = .ok (.getfield 9, 3) := by decide +kernel
theorem dJ_indexOf2_11 : decode mJ_indexOf2.2.1 11 = .ok (.iload_n 1, 1) := by decide +kernel
theorem dJ_indexOf2_12 : decode mJ_indexOf2.2.1 12 = .ok (.iload_n 2, 1) := by decide +kernel
theorem dJ_indexOf2_13 : decode mJ_indexOf2.2.1 13 = .ok (.aload_n 0, 1) := by decide +kernel
theorem dJ_indexOf2_14 : decode mJ_indexOf2.2.1 14 = .ok (.invokevirtual 505, 3) := by decide +kernel
theorem dJ_indexOf2_17 : decode mJ_indexOf2.2.1 17 = .ok (.invokestatic 637, 3) := by decide +kernel
theorem dJ_indexOf2_20 : decode mJ_indexOf2.2.1 20 = .ok (.goto (16), 3) := by decide +kernel
theorem dJ_indexOf2_23 : decode mJ_indexOf2.2.1 23 = .ok (.aload_n 0, 1) := by decide +kernel
theorem dJ_indexOf2_24 : decode mJ_indexOf2.2.1 24 = .ok (.getfield 9, 3) := by decide +kernel
theorem dJ_indexOf2_27 : decode mJ_indexOf2.2.1 27 = .ok (.iload_n 1, 1) := by decide +kernel
theorem dJ_indexOf2_28 : decode mJ_indexOf2.2.1 28 = .ok (.iload_n 2, 1) := by decide +kernel
theorem dJ_indexOf2_29 : decode mJ_indexOf2.2.1 29 = .ok (.aload_n 0, 1) := by decide +kernel
theorem dJ_indexOf2_30 : decode mJ_indexOf2.2.1 30 = .ok (.invokevirtual 505, 3) := by decide +kernel
theorem dJ_indexOf2_33 : decode mJ_indexOf2.2.1 33 = .ok (.invokestatic 640, 3) := by decide +kernel
theorem dJ_indexOf2_36 : decode mJ_indexOf2.2.1 36 = .ok (.ireturn, 1) := by decide +kernel
theorem dJ_isLatin1_0 : decode mJ_isLatin1.2.1 0 = .ok (.getstatic 38, 3) := by decide +kernel
theorem dJ_isLatin1_3 : decode mJ_isLatin1.2.1 3 = .ok (.ifCond .eq (14), 3) := by decide +kernel
theorem dJ_isLatin1_6 : decode mJ_isLatin1.2.1 6 = .ok (.aload_n 0, 1) := by decide +kernel
theorem dJ_isLatin1_7 : decode mJ_isLatin1.2.1 7 = .ok (.getfield 15, 3) := by decide +kernel
theorem dJ_isLatin1_10 : decode mJ_isLatin1.2.1 10 = .ok (.ifCond .ne (7), 3) := by decide +kernel
theorem dJ_isLatin1_13 : decode mJ_isLatin1.2.1 13 = .ok (.iconst 1, 1) := by decide +kernel
theorem dJ_isLatin1_14 : decode mJ_isLatin1.2.1 14 = .ok (.goto (4), 3) := by decide +kernel
theorem dJ_isLatin1_17 : decode mJ_isLatin1.2.1 17 = .ok (.iconst 0, 1) := by decide +kernel
theorem dJ_isLatin1_18 : decode mJ_isLatin1.2.1 18 = .ok (.ireturn, 1) := by decide +kernel
theorem dJ_length_0 : decode mJ_length.2.1 0 = .ok (.aload_n 0, 1) := by decide +kernel
theorem dJ_length_1 : decode mJ_length.2.1 1 = .ok (.getfield 9, 3) := by decide +kernel
theorem dJ_length_4 : decode mJ_length.2.1 4 = .ok (.arraylength, 1) := by decide +kernel
theorem dJ_length_5 : decode mJ_length.2.1 5 = .ok (.aload_n 0, 1) := by decide +kernel
theorem dJ_length_6 : decode mJ_length.2.1 6 = .ok (.invokevirtual 335, 3) := by decide +kernel
theorem dJ_length_9 : decode mJ_length.2.1 9 = .ok (.ishr, 1) := by decide +kernel
theorem dJ_length_10 : decode mJ_length.2.1 10 = .ok (.ireturn, 1) := by decide +kernel
theorem dJ_coder_0 : decode mJ_coder.2.1 0 = .ok (.getstatic 38, 3) := by decide +kernel
theorem dJ_coder_3 : decode mJ_coder.2.1 3 = .ok (.ifCond .eq (10), 3) := by decide +kernel
theorem dJ_coder_6 : decode mJ_coder.2.1 6 = .ok (.aload_n 0, 1) := by decide +kernel
theorem dJ_coder_7 : decode mJ_coder.2.1 7 = .ok (.getfield 15, 3) := by decide +kernel
theorem dJ_coder_10 : decode mJ_coder.2.1 10 = .ok (.goto (4), 3) := by decide +kernel
theorem dJ_coder_13 : decode mJ_coder.2.1 13 = .ok (.iconst 1, 1) := by decide +kernel
theorem dJ_coder_14 : decode mJ_coder.2.1 14 = .ok (.ireturn, 1) := by decide +kernel
theorem dJ_lindexOf_0 : decode mJ_lindexOf.2.1 0 = .ok (.iload_n 1, 1) := by decide +kernel
theorem dJ_lindexOf_1 : decode mJ_lindexOf.2.1 1 = .ok (.invokestatic 88, 3) := by decide +kernel
theorem dJ_lindexOf_4 : decode mJ_lindexOf.2.1 4 = .ok (.ifCond .ne (5), 3) := by decide +kernel
theorem dJ_lindexOf_7 : decode mJ_lindexOf.2.1 7 = .ok (.iconst (-1), 1) := by decide +kernel
theorem dJ_lindexOf_8 : decode mJ_lindexOf.2.1 8 = .ok (.ireturn, 1) := by decide +kernel
theorem dJ_lindexOf_9 : decode mJ_lindexOf.2.1 9 = .ok (.iload_n 2, 1) := by decide +kernel
theorem dJ_lindexOf_10 : decode mJ_lindexOf.2.1 10 = .ok (.iconst 0, 1) := by decide +kernel
theorem dJ_lindexOf_11 : decode mJ_lindexOf.2.1 11 = .ok (.invokestatic 92, 3) := by decide +kernel
theorem dJ_lindexOf_14 : decode mJ_lindexOf.2.1 14 = .ok (.istore_n 2, 1) := by decide +kernel
theorem dJ_lindexOf_15 : decode mJ_lindexOf.2.1 15 = .ok (.iload_n 3, 1) := by decide +kernel
theorem dJ_lindexOf_16 : decode mJ_lindexOf.2.1 16 = .ok (.aload_n 0, 1) := by decide +kernel
theorem dJ_lindexOf_17 : decode mJ_lindexOf.2.1 17 = .ok (.arraylength, 1) := by decide +kernel
theorem dJ_lindexOf_18 : decode mJ_lindexOf.2.1 18 = .ok (.invokestatic 38, 3) := by decide +kernel
theorem dJ_lindexOf_21 : decode mJ_lindexOf.2.1 21 = .ok (.istore_n 3, 1) := by decide +kernel
theorem dJ_lindexOf_22 : decode mJ_lindexOf.2.1 22 = .ok (.iload_n 2, 1) := by decide +kernel
theorem dJ_lindexOf_23 : decode mJ_lindexOf.2.1 23 = .ok (.iload_n 3, 1) := by decide +kernel
theorem dJ_lindexOf_24 : decode mJ_lindexOf.2.1 24 = .ok (.if_icmp .lt (5), 3) := by decide +kernel
theorem dJ_lindexOf_27 : decode mJ_lindexOf.2.1 27 = .ok (.iconst (-1), 1) := by decide +kernel
theorem dJ_lindexOf_28 : decode mJ_lindexOf.2.1 28 = .ok (.ireturn, 1) := by decide +kernel
theorem dJ_lindexOf_29 : decode mJ_lindexOf.2.1 29 = .ok (.aload_n 0, 1) := by decide +kernel
theorem dJ_lindexOf_30 : decode mJ_lindexOf.2.1 30 = .ok (.iload_n 1, 1) := by decide +kernel
theorem dJ_lindexOf_31 : decode mJ_lindexOf.2.1 31 = .ok (.iload_n 2, 1) := by decide +kernel
theorem dJ_lindexOf_32 : decode mJ_lindexOf.2.1 32 = .ok (.iload_n 3, 1) := by decide +kernel
theorem dJ_lindexOf_33 : decode mJ_lindexOf.2.1 33 = .ok (.invokestatic 95, 3) := by decide +kernel
theorem dJ_lindexOf_36 : decode mJ_lindexOf.2.1 36 = .ok (.ireturn, 1) := by decide +kernel
theorem dJ_canEncode_0 : decode mJ_canEncode.2.1 0 = .ok (.iload_n 0, 1) := by decide +kernel
theorem dJ_canEncode_1 : decode mJ_canEncode.2.1 1 = .ok (.ifCond .lt (14), 3) := by decide +kernel
theorem dJ_canEncode_4 : decode mJ_canEncode.2.1 4 = .ok (.iload_n 0, 1) := by decide +kernel
theorem dJ_canEncode_5 : decode mJ_canEncode.2.1 5 = .ok (.sipush (255), 3) := by decide +kernel
theorem dJ_canEncode_8 : decode mJ_canEncode.2.1 8 = .ok (.if_icmp .gt (7), 3) := by decide +kernel
theorem dJ_canEncode_11 : decode mJ_canEncode.2.1 11 = .ok (.iconst 1, 1) := by decide +kernel
theorem dJ_canEncode_12 : decode mJ_canEncode.2.1 12 = .ok (.goto (4), 3) := by decide +kernel
theorem dJ_canEncode_15 : decode mJ_canEncode.2.1 15 = .ok (.iconst 0, 1) := by decide +kernel
theorem dJ_canEncode_16 : decode mJ_canEncode.2.1 16 = .ok (.ireturn, 1) := by decide +kernel
theorem dJ_indexOfChar_0 : decode mJ_indexOfChar.2.1 0 = .ok (.iload_n 1, 1) := by decide +kernel
theorem dJ_indexOfChar_1 : decode mJ_indexOfChar.2.1 1 = .ok (.i2b, 1) := by decide +kernel
theorem dJ_indexOfChar_2 : decode mJ_indexOfChar.2.1 2 = .ok (.istore 4, 2) := by decide +kernel
theorem dJ_indexOfChar_4 : decode mJ_indexOfChar.2.1 4 = .ok (.iload_n 2, 1) := by decide +kernel
theorem dJ_indexOfChar_5 : decode mJ_indexOfChar.2.1 5 = .ok (.istore 5, 2) := by decide +kernel
theorem dJ_indexOfChar_7 : decode mJ_indexOfChar.2.1 7 = .ok (.iload 5, 2) := by decide +kernel
theorem dJ_indexOfChar_9 : decode mJ_indexOfChar.2.1 9 = .ok (.iload_n 3, 1) := by decide +kernel
theorem dJ_indexOfChar_10 : decode mJ_indexOfChar.2.1 10 = .ok (.if_icmp .ge (21), 3) := by decide +kernel
theorem dJ_indexOfChar_13 : decode mJ_indexOfChar.2.1 13 = .ok (.aload_n 0, 1) := by decide +kernel
theorem dJ_indexOfChar_14 : decode mJ_indexOfChar.2.1 14 = .ok (.iload 5, 2) := by decide +kernel
theorem dJ_indexOfChar_16 : decode mJ_indexOfChar.2.1 16 = .ok (.baload, 1) := by decide +kernel
theorem dJ_indexOfChar_17 : decode mJ_indexOfChar.2.1 17 = .ok (.iload 4, 2) := by decide +kernel
theorem dJ_indexOfChar_19 : decode mJ_indexOfChar.2.1 19 = .ok (.if_icmp .ne (6), 3) := by decide +kernel
theorem dJ_indexOfChar_22 : decode mJ_indexOfChar.2.1 22 = .ok (.iload 5, 2) := by decide +kernel
theorem dJ_indexOfChar_24 : decode mJ_indexOfChar.2.1 24 = .ok (.ireturn, 1) := by decide +kernel
theorem dJ_indexOfChar_25 : decode mJ_indexOfChar.2.1 25 = .ok (.iinc 5 (1), 3) := by decide +kernel
theorem dJ_indexOfChar_28 : decode mJ_indexOfChar.2.1 28 = .ok (.goto (-21), 3) := by decide +kernel
theorem dJ_indexOfChar_31 : decode mJ_indexOfChar.2.1 31 = .ok (.iconst (-1), 1) := by decide +kernel
theorem dJ_indexOfChar_32 : decode mJ_indexOfChar.2.1 32 = .ok (.ireturn, 1) := by decide +kernel
theorem dJ_fill_0 : decode mJ_fill.2.1 0 = .ok (.iconst 0, 1) := by decide +kernel
theorem dJ_fill_1 : decode mJ_fill.2.1 1 = .ok (.istore_n 2, 1) := by decide +kernel
theorem dJ_fill_2 : decode mJ_fill.2.1 2 = .ok (.aload_n 0, 1) := by decide +kernel
theorem dJ_fill_3 : decode mJ_fill.2.1 3 = .ok (.arraylength, 1) := by decide +kernel
theorem dJ_fill_4 : decode mJ_fill.2.1 4 = .ok (.istore_n 3, 1) := by decide +kernel
theorem dJ_fill_5 : decode mJ_fill.2.1 5 = .ok (.iload_n 2, 1) := by decide +kernel
theorem dJ_fill_6 : decode mJ_fill.2.1 6 = .ok (.iload_n 3, 1) := by decide +kernel
theorem dJ_fill_7 : decode mJ_fill.2.1 7 = .ok (.if_icmp .ge (13), 3) := by decide +kernel
theorem dJ_fill_10 : decode mJ_fill.2.1 10 = .ok (.aload_n 0, 1) := by decide +kernel
theorem dJ_fill_11 : decode mJ_fill.2.1 11 = .ok (.iload_n 2, 1) := by decide +kernel
theorem dJ_fill_12 : decode mJ_fill.2.1 12 = .ok (.iload_n 1, 1) := by decide +kernel
theorem dJ_fill_13 : decode mJ_fill.2.1 13 = .ok (.iastore, 1) := by decide +kernel
theorem dJ_fill_14 : decode mJ_fill.2.1 14 = .ok (.iinc 2 (1), 3) := by decide +kernel
theorem dJ_fill_17 : decode mJ_fill.2.1 17 = .ok (.goto (-12), 3) := by decide +kernel
theorem dJ_fill_20 : decode mJ_fill.2.1 20 = .ok (.return_, 1) := by decide +kernel
theorem lS_22 : Jvm.Cond.methodLink "KeptItems$Source" 22 arraycopyName ∈ zT := zin 287 (by decide +kernel) (by decide +kernel)
theorem fJ_38 : Jvm.Cond.fieldLink "java/lang/String" 38 "java/lang/String" "COMPACT_STRINGS" "Z" ∈ zT := zin 332 (by decide +kernel) (by decide +kernel)
theorem lJL_92 : Jvm.Cond.methodLink "java/lang/StringLatin1" 92 Lib.Math.max.name ∈ zT := zin 348 (by decide +kernel) (by decide +kernel)
theorem lJL_38 : Jvm.Cond.methodLink "java/lang/StringLatin1" 38 Lib.Math.min.name ∈ zT := zin 351 (by decide +kernel) (by decide +kernel)
theorem fJ_15 : Jvm.Cond.fieldLink "java/lang/String" 15 "java/lang/String" "coder" "B" ∈ zT := zin 881 (by decide +kernel) (by decide +kernel)
theorem fJ_9 : Jvm.Cond.fieldLink "java/lang/String" 9 "java/lang/String" "value" "[B" ∈ zT := zin 882 (by decide +kernel) (by decide +kernel)
