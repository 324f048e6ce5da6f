theorem dM_readToken_113 : decode mM_readToken.2.1 113 = .ok (.invokevirtual 168, 3) := by decide +kernel
theorem dM_readToken_116 : decode mM_readToken.2.1 116 = .ok (.goto (8), 3) := by decide +kernel
theorem dM_readToken_119 : decode mM_readToken.2.1 119 = .ok (.aload_n 0, 1) := by decide +kernel
theorem dM_readToken_120 : decode mM_readToken.2.1 120 = .ok (.iload_n 1, 1) := by decide +kernel
theorem dM_readToken_121 : decode mM_readToken.2.1 121 = .ok (.invokevirtual 178, 3) := by decide +kernel
theorem dM_readToken_124 : decode mM_readToken.2.1 124 = .ok (.ireturn, 1) := by decide +kernel
theorem dM_readToken_125 : decode mM_readToken.2.1 125 = .ok (.aload_n 0, 1) := by decide +kernel
theorem dM_readToken_126 : decode mM_readToken.2.1 126 = .ok (.iload_n 1, 1) := by decide +kernel
theorem dM_readToken_127 : decode mM_readToken.2.1 127 = .ok (.invokevirtual 181, 3) := by decide +kernel
theorem dM_readToken_130 : decode mM_readToken.2.1 130 = .ok (.ireturn, 1) := by decide +kernel
theorem dM_readToken_131 : decode mM_readToken.2.1 131 = .ok (.aload_n 0, 1) := by decide +kernel
theorem dM_readToken_132 : decode mM_readToken.2.1 132 = .ok (.iload_n 1, 1) := by decide +kernel
theorem dM_readToken_133 : decode mM_readToken.2.1 133 = .ok (.bipush (59), 2) := by decide +kernel
theorem dM_readToken_135 : decode mM_readToken.2.1 135 = .ok (.invokevirtual 153, 3) := by decide +kernel
theorem dM_readToken_138 : decode mM_readToken.2.1 138 = .ok (.ifCond .eq (14), 3) := by decide +kernel
theorem dM_readToken_141 : decode mM_readToken.2.1 141 = .ok (.aload_n 0, 1) := by decide +kernel
theorem dM_readToken_142 : decode mM_readToken.2.1 142 = .ok (.aload_n 0, 1) := by decide +kernel
theorem dM_readToken_143 : decode mM_readToken.2.1 143 = .ok (.getfield 143, 3) := by decide +kernel
theorem dM_readToken_146 : decode mM_readToken.2.1 146 = .ok (.iload_n 1, 1) := by decide +kernel
theorem dM_readToken_147 : decode mM_readToken.2.1 147 = .ok (.invokevirtual 161, 3) := by decide +kernel
theorem dM_readToken_150 : decode mM_readToken.2.1 150 = .ok (.iconst 1, 1) := by decide +kernel
theorem dM_readToken_151 : decode mM_readToken.2.1 151 = .ok (.ireturn, 1) := by decide +kernel
theorem dM_readToken_152 : decode mM_readToken.2.1 152 = .ok (.iconst 0, 1) := by decide +kernel
theorem dM_readToken_153 : decode mM_readToken.2.1 153 = .ok (.ireturn, 1) := by decide +kernel
theorem dM_read_0 : decode mM_read.2.1 0 = .ok (.aload_n 0, 1) := by decide +kernel
theorem dM_read_1 : decode mM_read.2.1 1 = .ok (.iconst 0, 1) := by decide +kernel
theorem dM_read_2 : decode mM_read.2.1 2 = .ok (.putfield 127, 3) := by decide +kernel
theorem dM_read_5 : decode mM_read.2.1 5 = .ok (.aload_n 0, 1) := by decide +kernel
theorem dM_read_6 : decode mM_read.2.1 6 = .ok (.iconst 0, 1) := by decide +kernel
theorem dM_read_7 : decode mM_read.2.1 7 = .ok (.putfield 140, 3) := by decide +kernel
theorem dM_read_10 : decode mM_read.2.1 10 = .ok (.aload_n 0, 1) := by decide +kernel
theorem dM_read_11 : decode mM_read.2.1 11 = .ok (.iconst 0, 1) := by decide +kernel
theorem dM_read_12 : decode mM_read.2.1 12 = .ok (.putfield 137, 3) := by decide +kernel
theorem dM_read_15 : decode mM_read.2.1 15 = .ok (.aload_n 0, 1) := by decide +kernel
theorem dM_read_16 : decode mM_read.2.1 16 = .ok (.iconst 0, 1) := by decide +kernel
theorem dM_read_17 : decode mM_read.2.1 17 = .ok (.putfield 146, 3) := by decide +kernel
theorem dM_read_20 : decode mM_read.2.1 20 = .ok (.aload_n 0, 1) := by decide +kernel
theorem dM_read_21 : decode mM_read.2.1 21 = .ok (.iconst 0, 1) := by decide +kernel
theorem dM_read_22 : decode mM_read.2.1 22 = .ok (.putfield 134, 3) := by decide +kernel
theorem dM_read_25 : decode mM_read.2.1 25 = .ok (.iconst 0, 1) := by decide +kernel
theorem dM_read_26 : decode mM_read.2.1 26 = .ok (.istore_n 1, 1) := by decide +kernel
theorem dM_read_27 : decode mM_read.2.1 27 = .ok (.iload_n 1, 1) := by decide +kernel
theorem dM_read_28 : decode mM_read.2.1 28 = .ok (.aload_n 0, 1) := by decide +kernel
theorem dM_read_29 : decode mM_read.2.1 29 = .ok (.getfield 106, 3) := by decide +kernel
theorem dM_read_32 : decode mM_read.2.1 32 = .ok (.if_icmp .ge (17), 3) := by decide +kernel
theorem dM_read_35 : decode mM_read.2.1 35 = .ok (.aload_n 0, 1) := by decide +kernel
theorem dM_read_36 : decode mM_read.2.1 36 = .ok (.iload_n 1, 1) := by decide +kernel
theorem dM_read_37 : decode mM_read.2.1 37 = .ok (.invokevirtual 184, 3) := by decide +kernel
theorem dM_read_40 : decode mM_read.2.1 40 = .ok (.ifCond .eq (9), 3) := by decide +kernel
theorem dM_read_43 : decode mM_read.2.1 43 = .ok (.iinc 1 (1), 3) := by decide +kernel
theorem dM_read_46 : decode mM_read.2.1 46 = .ok (.goto (-19), 3) := by decide +kernel
theorem dM_read_49 : decode mM_read.2.1 49 = .ok (.iload_n 1, 1) := by decide +kernel
theorem dM_read_50 : decode mM_read.2.1 50 = .ok (.aload_n 0, 1) := by decide +kernel
theorem dM_read_51 : decode mM_read.2.1 51 = .ok (.getfield 106, 3) := by decide +kernel
theorem dM_read_54 : decode mM_read.2.1 54 = .ok (.if_icmp .ne (21), 3) := by decide +kernel
theorem dM_read_57 : decode mM_read.2.1 57 = .ok (.aload_n 0, 1) := by decide +kernel
theorem dM_read_58 : decode mM_read.2.1 58 = .ok (.getfield 134, 3) := by decide +kernel
theorem dM_read_61 : decode mM_read.2.1 61 = .ok (.ifCond .ne (14), 3) := by decide +kernel
theorem dM_read_64 : decode mM_read.2.1 64 = .ok (.aload_n 0, 1) := by decide +kernel
theorem dM_read_65 : decode mM_read.2.1 65 = .ok (.getfield 127, 3) := by decide +kernel
theorem dM_read_68 : decode mM_read.2.1 68 = .ok (.ifCond .ne (7), 3) := by decide +kernel
theorem dM_read_71 : decode mM_read.2.1 71 = .ok (.iconst 1, 1) := by decide +kernel
theorem dM_read_72 : decode mM_read.2.1 72 = .ok (.goto (4), 3) := by decide +kernel
theorem dM_read_75 : decode mM_read.2.1 75 = .ok (.iconst 0, 1) := by decide +kernel
theorem dM_read_76 : decode mM_read.2.1 76 = .ok (.istore_n 2, 1) := by decide +kernel
theorem dM_read_77 : decode mM_read.2.1 77 = .ok (.aload_n 0, 1) := by decide +kernel
theorem dM_read_78 : decode mM_read.2.1 78 = .ok (.iload_n 2, 1) := by decide +kernel
theorem dM_read_79 : decode mM_read.2.1 79 = .ok (.ifCond .eq (7), 3) := by decide +kernel
theorem dM_read_82 : decode mM_read.2.1 82 = .ok (.iconst (-1), 1) := by decide +kernel
theorem dM_read_83 : decode mM_read.2.1 83 = .ok (.goto (24), 3) := by decide +kernel
theorem dM_read_86 : decode mM_read.2.1 86 = .ok (.iload_n 1, 1) := by decide +kernel
theorem dM_read_87 : decode mM_read.2.1 87 = .ok (.aload_n 0, 1) := by decide +kernel
theorem dM_read_88 : decode mM_read.2.1 88 = .ok (.getfield 106, 3) := by decide +kernel
theorem dM_read_91 : decode mM_read.2.1 91 = .ok (.if_icmp .ge (12), 3) := by decide +kernel
theorem dM_read_94 : decode mM_read.2.1 94 = .ok (.aload_n 0, 1) := by decide +kernel
theorem dM_read_95 : decode mM_read.2.1 95 = .ok (.getfield 16, 3) := by decide +kernel
theorem dM_read_98 : decode mM_read.2.1 98 = .ok (.iload_n 1, 1) := by decide +kernel
theorem dM_read_99 : decode mM_read.2.1 99 = .ok (.iaload, 1) := by decide +kernel
theorem dM_read_100 : decode mM_read.2.1 100 = .ok (.goto (7), 3) := by decide +kernel
theorem dM_read_103 : decode mM_read.2.1 103 = .ok (.aload_n 0, 1) := by decide +kernel
theorem dM_read_104 : decode mM_read.2.1 104 = .ok (.getfield 103, 3) := by decide +kernel
theorem dM_read_107 : decode mM_read.2.1 107 = .ok (.putfield 69, 3) := by decide +kernel
theorem dM_read_110 : decode mM_read.2.1 110 = .ok (.return_, 1) := by decide +kernel
theorem dM_numberValue_0 : decode mM_numberValue.2.1 0 = .ok (.iconst 0, 1) := by decide +kernel
theorem dM_numberValue_1 : decode mM_numberValue.2.1 1 = .ok (.istore_n 2, 1) := by decide +kernel
theorem dM_numberValue_2 : decode mM_numberValue.2.1 2 = .ok (.iconst 0, 1) := by decide +kernel
theorem dM_numberValue_3 : decode mM_numberValue.2.1 3 = .ok (.istore_n 3, 1) := by decide +kernel
theorem dM_numberValue_4 : decode mM_numberValue.2.1 4 = .ok (.iload_n 3, 1) := by decide +kernel
theorem dM_numberValue_5 : decode mM_numberValue.2.1 5 = .ok (.aload_n 0, 1) := by decide +kernel
theorem dM_numberValue_6 : decode mM_numberValue.2.1 6 = .ok (.getfield 20, 3) := by decide +kernel
theorem dM_numberValue_9 : decode mM_numberValue.2.1 9 = .ok (.iload_n 1, 1) := by decide +kernel
theorem dM_numberValue_10 : decode mM_numberValue.2.1 10 = .ok (.iaload, 1) := by decide +kernel
theorem dM_numberValue_11 : decode mM_numberValue.2.1 11 = .ok (.if_icmp .ge (31), 3) := by decide +kernel
theorem dM_numberValue_14 : decode mM_numberValue.2.1 14 = .ok (.bipush (10), 2) := by decide +kernel
theorem dM_numberValue_16 : decode mM_numberValue.2.1 16 = .ok (.iload_n 2, 1) := by decide +kernel
theorem dM_numberValue_17 : decode mM_numberValue.2.1 17 = .ok (.imul, 1) := by decide +kernel
theorem dM_numberValue_18 : decode mM_numberValue.2.1 18 = .ok (.aload_n 0, 1) := by decide +kernel
theorem dM_numberValue_19 : decode mM_numberValue.2.1 19 = .ok (.getfield 7, 3) := by decide +kernel
theorem dM_numberValue_22 : decode mM_numberValue.2.1 22 = .ok (.aload_n 0, 1) := by decide +kernel
theorem dM_numberValue_23 : decode mM_numberValue.2.1 23 = .ok (.getfield 16, 3) := by decide +kernel
theorem dM_numberValue_26 : decode mM_numberValue.2.1 26 = .ok (.iload_n 1, 1) := by decide +kernel
theorem dM_numberValue_27 : decode mM_numberValue.2.1 27 = .ok (.iaload, 1) := by decide +kernel
theorem dM_numberValue_28 : decode mM_numberValue.2.1 28 = .ok (.iload_n 3, 1) := by decide +kernel
theorem dM_numberValue_29 : decode mM_numberValue.2.1 29 = .ok (.iadd, 1) := by decide +kernel
theorem dM_numberValue_30 : decode mM_numberValue.2.1 30 = .ok (.caload, 1) := by decide +kernel
theorem dM_numberValue_31 : decode mM_numberValue.2.1 31 = .ok (.bipush (48), 2) := by decide +kernel
theorem dM_numberValue_33 : decode mM_numberValue.2.1 33 = .ok (.isub, 1) := by decide +kernel
theorem dM_numberValue_34 : decode mM_numberValue.2.1 34 = .ok (.iadd, 1) := by decide +kernel
theorem dM_numberValue_35 : decode mM_numberValue.2.1 35 = .ok (.istore_n 2, 1) := by decide +kernel
theorem dM_numberValue_36 : decode mM_numberValue.2.1 36 = .ok (.iinc 3 (1), 3) := by decide +kernel
theorem dM_numberValue_39 : decode mM_numberValue.2.1 39 = .ok (.goto (-35), 3) := by decide +kernel
theorem dM_numberValue_42 : decode mM_numberValue.2.1 42 = .ok (.iload_n 2, 1) := by decide +kernel
theorem dM_numberValue_43 : decode mM_numberValue.2.1 43 = .ok (.ireturn, 1) := by decide +kernel
theorem dM_sameLetters_0 : decode mM_sameLetters.2.1 0 = .ok (.aload_n 0, 1) := by decide +kernel
theorem dM_sameLetters_1 : decode mM_sameLetters.2.1 1 = .ok (.getfield 20, 3) := by decide +kernel
theorem dM_sameLetters_4 : decode mM_sameLetters.2.1 4 = .ok (.iload_n 1, 1) := by decide +kernel
theorem dM_sameLetters_5 : decode mM_sameLetters.2.1 5 = .ok (.iaload, 1) := by decide +kernel
theorem dM_sameLetters_6 : decode mM_sameLetters.2.1 6 = .ok (.aload_n 0, 1) := by decide +kernel
theorem dM_sameLetters_7 : decode mM_sameLetters.2.1 7 = .ok (.getfield 20, 3) := by decide +kernel
theorem dM_sameLetters_10 : decode mM_sameLetters.2.1 10 = .ok (.iload_n 2, 1) := by decide +kernel
theorem dM_sameLetters_11 : decode mM_sameLetters.2.1 11 = .ok (.iaload, 1) := by decide +kernel
theorem dM_sameLetters_12 : decode mM_sameLetters.2.1 12 = .ok (.if_icmp .ne (7), 3) := by decide +kernel
theorem dM_sameLetters_15 : decode mM_sameLetters.2.1 15 = .ok (.iconst 1, 1) := by decide +kernel
theorem dM_sameLetters_16 : decode mM_sameLetters.2.1 16 = .ok (.goto (4), 3) := by decide +kernel
theorem dM_sameLetters_19 : decode mM_sameLetters.2.1 19 = .ok (.iconst 0, 1) := by decide +kernel
theorem dM_sameLetters_20 : decode mM_sameLetters.2.1 20 = .ok (.istore_n 3, 1) := by decide +kernel
theorem dM_sameLetters_21 : decode mM_sameLetters.2.1 21 = .ok (.iconst 0, 1) := by decide +kernel
theorem dM_sameLetters_22 : decode mM_sameLetters.2.1 22 = .ok (.istore 4, 2) := by decide +kernel
theorem dM_sameLetters_24 : decode mM_sameLetters.2.1 24 = .ok (.iload 4, 2) := by decide +kernel
theorem dM_sameLetters_26 : decode mM_sameLetters.2.1 26 = .ok (.aload_n 0, 1) := by decide +kernel
theorem dM_sameLetters_27 : decode mM_sameLetters.2.1 27 = .ok (.getfield 20, 3) := by decide +kernel
theorem dM_sameLetters_30 : decode mM_sameLetters.2.1 30 = .ok (.iload_n 2, 1) := by decide +kernel
theorem dM_sameLetters_31 : decode mM_sameLetters.2.1 31 = .ok (.iaload, 1) := by decide +kernel
theorem dM_sameLetters_32 : decode mM_sameLetters.2.1 32 = .ok (.if_icmp .ge (50), 3) := by decide +kernel
theorem dM_sameLetters_35 : decode mM_sameLetters.2.1 35 = .ok (.iload_n 3, 1) := by decide +kernel
theorem dM_sameLetters_36 : decode mM_sameLetters.2.1 36 = .ok (.ifCond .eq (46), 3) := by decide +kernel
theorem dM_sameLetters_39 : decode mM_sameLetters.2.1 39 = .ok (.aload_n 0, 1) := by decide +kernel
theorem dM_sameLetters_40 : decode mM_sameLetters.2.1 40 = .ok (.getfield 7, 3) := by decide +kernel
theorem dM_sameLetters_43 : decode mM_sameLetters.2.1 43 = .ok (.aload_n 0, 1) := by decide +kernel
theorem dM_sameLetters_44 : decode mM_sameLetters.2.1 44 = .ok (.getfield 16, 3) := by decide +kernel
theorem dM_sameLetters_47 : decode mM_sameLetters.2.1 47 = .ok (.iload_n 1, 1) := by decide +kernel
theorem dM_sameLetters_48 : decode mM_sameLetters.2.1 48 = .ok (.iaload, 1) := by decide +kernel
theorem dM_sameLetters_49 : decode mM_sameLetters.2.1 49 = .ok (.iload 4, 2) := by decide +kernel
theorem dM_sameLetters_51 : decode mM_sameLetters.2.1 51 = .ok (.iadd, 1) := by decide +kernel
theorem dM_sameLetters_52 : decode mM_sameLetters.2.1 52 = .ok (.caload, 1) := by decide +kernel
theorem dM_sameLetters_53 : decode mM_sameLetters.2.1 53 = .ok (.aload_n 0, 1) := by decide +kernel
theorem dM_sameLetters_54 : decode mM_sameLetters.2.1 54 = .ok (.getfield 7, 3) := by decide +kernel
theorem dM_sameLetters_57 : decode mM_sameLetters.2.1 57 = .ok (.aload_n 0, 1) := by decide +kernel
theorem dM_sameLetters_58 : decode mM_sameLetters.2.1 58 = .ok (.getfield 16, 3) := by decide +kernel
theorem dM_sameLetters_61 : decode mM_sameLetters.2.1 61 = .ok (.iload_n 2, 1) := by decide +kernel
theorem dM_sameLetters_62 : decode mM_sameLetters.2.1 62 = .ok (.iaload, 1) := by decide +kernel
theorem dM_sameLetters_63 : decode mM_sameLetters.2.1 63 = .ok (.iload 4, 2) := by decide +kernel
theorem dM_sameLetters_65 : decode mM_sameLetters.2.1 65 = .ok (.iadd, 1) := by decide +kernel
theorem dM_sameLetters_66 : decode mM_sameLetters.2.1 66 = .ok (.caload, 1) := by decide +kernel
theorem dM_sameLetters_67 : decode mM_sameLetters.2.1 67 = .ok (.if_icmp .ne (7), 3) := by decide +kernel
theorem dM_sameLetters_70 : decode mM_sameLetters.2.1 70 = .ok (.iconst 1, 1) := by decide +kernel
theorem dM_sameLetters_71 : decode mM_sameLetters.2.1 71 = .ok (.goto (4), 3) := by decide +kernel
theorem dM_sameLetters_74 : decode mM_sameLetters.2.1 74 = .ok (.iconst 0, 1) := by decide +kernel
theorem dM_sameLetters_75 : decode mM_sameLetters.2.1 75 = .ok (.istore_n 3, 1) := by decide +kernel
theorem dM_sameLetters_76 : decode mM_sameLetters.2.1 76 = .ok (.iinc 4 (1), 3) := by decide +kernel
theorem dM_sameLetters_79 : decode mM_sameLetters.2.1 79 = .ok (.goto (-55), 3) := by decide +kernel
theorem dM_sameLetters_82 : decode mM_sameLetters.2.1 82 = .ok (.iload_n 3, 1) := by decide +kernel
theorem dM_sameLetters_83 : decode mM_sameLetters.2.1 83 = .ok (.ireturn, 1) := by decide +kernel
theorem dM_named_0 : decode mM_named.2.1 0 = .ok (.iconst 0, 1) := by decide +kernel
theorem dM_named_1 : decode mM_named.2.1 1 = .ok (.istore_n 3, 1) := by decide +kernel
theorem dM_named_2 : decode mM_named.2.1 2 = .ok (.iconst 0, 1) := by decide +kernel
theorem dM_named_3 : decode mM_named.2.1 3 = .ok (.istore 4, 2) := by decide +kernel
theorem dM_named_5 : decode mM_named.2.1 5 = .ok (.iload 4, 2) := by decide +kernel
theorem dM_named_7 : decode mM_named.2.1 7 = .ok (.iload_n 1, 1) := by decide +kernel
theorem dM_named_8 : decode mM_named.2.1 8 = .ok (.if_icmp .ge (46), 3) := by decide +kernel
theorem dM_named_11 : decode mM_named.2.1 11 = .ok (.aload_n 0, 1) := by decide +kernel
theorem dM_named_12 : decode mM_named.2.1 12 = .ok (.getfield 51, 3) := by decide +kernel
theorem dM_named_15 : decode mM_named.2.1 15 = .ok (.iload 4, 2) := by decide +kernel
theorem dM_named_17 : decode mM_named.2.1 17 = .ok (.baload, 1) := by decide +kernel
theorem dM_named_18 : decode mM_named.2.1 18 = .ok (.ifCond .eq (28), 3) := by decide +kernel
theorem dM_named_21 : decode mM_named.2.1 21 = .ok (.aload_n 0, 1) := by decide +kernel
theorem dM_named_22 : decode mM_named.2.1 22 = .ok (.aload_n 0, 1) := by decide +kernel
theorem dM_named_23 : decode mM_named.2.1 23 = .ok (.getfield 38, 3) := by decide +kernel
theorem dM_named_26 : decode mM_named.2.1 26 = .ok (.iload 4, 2) := by decide +kernel
theorem dM_named_28 : decode mM_named.2.1 28 = .ok (.iaload, 1) := by decide +kernel
theorem dM_named_29 : decode mM_named.2.1 29 = .ok (.iload_n 2, 1) := by decide +kernel
theorem dM_named_30 : decode mM_named.2.1 30 = .ok (.invokevirtual 187, 3) := by decide +kernel
theorem dM_named_33 : decode mM_named.2.1 33 = .ok (.ifCond .eq (13), 3) := by decide +kernel
theorem dM_named_36 : decode mM_named.2.1 36 = .ok (.aload_n 0, 1) := by decide +kernel
theorem dM_named_37 : decode mM_named.2.1 37 = .ok (.getfield 57, 3) := by decide +kernel
theorem dM_named_40 : decode mM_named.2.1 40 = .ok (.iload 4, 2) := by decide +kernel
theorem dM_named_42 : decode mM_named.2.1 42 = .ok (.iaload, 1) := by decide +kernel
theorem dM_named_43 : decode mM_named.2.1 43 = .ok (.goto (4), 3) := by decide +kernel
theorem dM_named_46 : decode mM_named.2.1 46 = .ok (.iload_n 3, 1) := by decide +kernel
theorem dM_named_47 : decode mM_named.2.1 47 = .ok (.istore_n 3, 1) := by decide +kernel
theorem dM_named_48 : decode mM_named.2.1 48 = .ok (.iinc 4 (1), 3) := by decide +kernel
theorem dM_named_51 : decode mM_named.2.1 51 = .ok (.goto (-46), 3) := by decide +kernel
theorem dM_named_54 : decode mM_named.2.1 54 = .ok (.iload_n 3, 1) := by decide +kernel
theorem dM_named_55 : decode mM_named.2.1 55 = .ok (.ireturn, 1) := by decide +kernel
theorem dM_enter_0 : decode mM_enter.2.1 0 = .ok (.aload_n 0, 1) := by decide +kernel
theorem dM_enter_1 : decode mM_enter.2.1 1 = .ok (.dup, 1) := by decide +kernel
theorem dM_enter_2 : decode mM_enter.2.1 2 = .ok (.getfield 191, 3) := by decide +kernel
theorem dM_enter_5 : decode mM_enter.2.1 5 = .ok (.iconst 1, 1) := by decide +kernel
theorem dM_enter_6 : decode mM_enter.2.1 6 = .ok (.iadd, 1) := by decide +kernel
theorem dM_enter_7 : decode mM_enter.2.1 7 = .ok (.putfield 191, 3) := by decide +kernel
theorem dM_enter_10 : decode mM_enter.2.1 10 = .ok (.aload_n 0, 1) := by decide +kernel
theorem dM_enter_11 : decode mM_enter.2.1 11 = .ok (.getfield 79, 3) := by decide +kernel
theorem dM_enter_14 : decode mM_enter.2.1 14 = .ok (.aload_n 0, 1) := by decide +kernel
theorem dM_enter_15 : decode mM_enter.2.1 15 = .ok (.getfield 191, 3) := by decide +kernel
theorem dM_enter_18 : decode mM_enter.2.1 18 = .ok (.iconst 0, 1) := by decide +kernel
theorem dM_enter_19 : decode mM_enter.2.1 19 = .ok (.iastore, 1) := by decide +kernel
theorem dM_enter_20 : decode mM_enter.2.1 20 = .ok (.aload_n 0, 1) := by decide +kernel
theorem dM_enter_21 : decode mM_enter.2.1 21 = .ok (.getfield 82, 3) := by decide +kernel
theorem dM_enter_24 : decode mM_enter.2.1 24 = .ok (.aload_n 0, 1) := by decide +kernel
theorem dM_enter_25 : decode mM_enter.2.1 25 = .ok (.getfield 191, 3) := by decide +kernel
theorem dM_enter_28 : decode mM_enter.2.1 28 = .ok (.iconst 1, 1) := by decide +kernel
theorem dM_enter_29 : decode mM_enter.2.1 29 = .ok (.iastore, 1) := by decide +kernel
theorem dM_enter_30 : decode mM_enter.2.1 30 = .ok (.aload_n 0, 1) := by decide +kernel
theorem dM_enter_31 : decode mM_enter.2.1 31 = .ok (.getfield 85, 3) := by decide +kernel
theorem dM_enter_34 : decode mM_enter.2.1 34 = .ok (.aload_n 0, 1) := by decide +kernel
theorem dM_enter_35 : decode mM_enter.2.1 35 = .ok (.getfield 191, 3) := by decide +kernel
theorem dM_enter_38 : decode mM_enter.2.1 38 = .ok (.iconst 1, 1) := by decide +kernel
theorem dM_enter_39 : decode mM_enter.2.1 39 = .ok (.iastore, 1) := by decide +kernel
theorem dM_enter_40 : decode mM_enter.2.1 40 = .ok (.aload_n 0, 1) := by decide +kernel
theorem dM_enter_41 : decode mM_enter.2.1 41 = .ok (.getfield 88, 3) := by decide +kernel
theorem dM_enter_44 : decode mM_enter.2.1 44 = .ok (.aload_n 0, 1) := by decide +kernel
theorem dM_enter_45 : decode mM_enter.2.1 45 = .ok (.getfield 191, 3) := by decide +kernel
theorem dM_enter_48 : decode mM_enter.2.1 48 = .ok (.iconst 0, 1) := by decide +kernel
theorem dM_enter_49 : decode mM_enter.2.1 49 = .ok (.iastore, 1) := by decide +kernel
theorem dM_enter_50 : decode mM_enter.2.1 50 = .ok (.aload_n 0, 1) := by decide +kernel
theorem dM_enter_51 : decode mM_enter.2.1 51 = .ok (.getfield 94, 3) := by decide +kernel
theorem dM_enter_54 : decode mM_enter.2.1 54 = .ok (.aload_n 0, 1) := by decide +kernel
theorem dM_enter_55 : decode mM_enter.2.1 55 = .ok (.getfield 191, 3) := by decide +kernel
theorem dM_enter_58 : decode mM_enter.2.1 58 = .ok (.iload_n 1, 1) := by decide +kernel
theorem dM_enter_59 : decode mM_enter.2.1 59 = .ok (.bastore, 1) := by decide +kernel
theorem dM_enter_60 : decode mM_enter.2.1 60 = .ok (.aload_n 0, 1) := by decide +kernel
theorem dM_enter_61 : decode mM_enter.2.1 61 = .ok (.getfield 91, 3) := by decide +kernel
theorem dM_enter_64 : decode mM_enter.2.1 64 = .ok (.aload_n 0, 1) := by decide +kernel
theorem dM_enter_65 : decode mM_enter.2.1 65 = .ok (.getfield 191, 3) := by decide +kernel
theorem dM_enter_68 : decode mM_enter.2.1 68 = .ok (.iload_n 2, 1) := by decide +kernel
theorem dM_enter_69 : decode mM_enter.2.1 69 = .ok (.iastore, 1) := by decide +kernel
theorem dM_enter_70 : decode mM_enter.2.1 70 = .ok (.return_, 1) := by decide +kernel
theorem dM_take_0 : decode mM_take.2.1 0 = .ok (.aload_n 0, 1) := by decide +kernel
theorem dM_take_1 : decode mM_take.2.1 1 = .ok (.getfield 85, 3) := by decide +kernel
theorem dM_take_4 : decode mM_take.2.1 4 = .ok (.aload_n 0, 1) := by decide +kernel
theorem dM_take_5 : decode mM_take.2.1 5 = .ok (.getfield 191, 3) := by decide +kernel
theorem dM_take_8 : decode mM_take.2.1 8 = .ok (.aload_n 0, 1) := by decide +kernel
theorem dM_take_9 : decode mM_take.2.1 9 = .ok (.getfield 88, 3) := by decide +kernel
theorem dM_take_12 : decode mM_take.2.1 12 = .ok (.aload_n 0, 1) := by decide +kernel
theorem dM_take_13 : decode mM_take.2.1 13 = .ok (.getfield 191, 3) := by decide +kernel
theorem dM_take_16 : decode mM_take.2.1 16 = .ok (.iaload, 1) := by decide +kernel
theorem dM_take_17 : decode mM_take.2.1 17 = .ok (.iconst 2, 1) := by decide +kernel
theorem dM_take_18 : decode mM_take.2.1 18 = .ok (.irem, 1) := by decide +kernel
theorem dM_take_19 : decode mM_take.2.1 19 = .ok (.iconst 1, 1) := by decide +kernel
theorem dM_take_20 : decode mM_take.2.1 20 = .ok (.if_icmp .ne (18), 3) := by decide +kernel
theorem dM_take_23 : decode mM_take.2.1 23 = .ok (.aload_n 0, 1) := by decide +kernel
theorem dM_take_24 : decode mM_take.2.1 24 = .ok (.getfield 85, 3) := by decide +kernel
theorem dM_take_27 : decode mM_take.2.1 27 = .ok (.aload_n 0, 1) := by decide +kernel
theorem dM_take_28 : decode mM_take.2.1 28 = .ok (.getfield 191, 3) := by decide +kernel
theorem dM_take_31 : decode mM_take.2.1 31 = .ok (.iaload, 1) := by decide +kernel
theorem dM_take_32 : decode mM_take.2.1 32 = .ok (.iload_n 1, 1) := by decide +kernel
theorem dM_take_33 : decode mM_take.2.1 33 = .ok (.imul, 1) := by decide +kernel
theorem dM_take_34 : decode mM_take.2.1 34 = .ok (.ineg, 1) := by decide +kernel
theorem dM_take_35 : decode mM_take.2.1 35 = .ok (.goto (14), 3) := by decide +kernel
theorem dM_take_38 : decode mM_take.2.1 38 = .ok (.aload_n 0, 1) := by decide +kernel
theorem dM_take_39 : decode mM_take.2.1 39 = .ok (.getfield 85, 3) := by decide +kernel
theorem dM_take_42 : decode mM_take.2.1 42 = .ok (.aload_n 0, 1) := by decide +kernel
theorem dM_take_43 : decode mM_take.2.1 43 = .ok (.getfield 191, 3) := by decide +kernel
theorem dM_take_46 : decode mM_take.2.1 46 = .ok (.iaload, 1) := by decide +kernel
theorem dM_take_47 : decode mM_take.2.1 47 = .ok (.iload_n 1, 1) := by decide +kernel
theorem dM_take_48 : decode mM_take.2.1 48 = .ok (.imul, 1) := by decide +kernel
theorem dM_take_49 : decode mM_take.2.1 49 = .ok (.iastore, 1) := by decide +kernel
theorem dM_take_50 : decode mM_take.2.1 50 = .ok (.aload_n 0, 1) := by decide +kernel
theorem dM_take_51 : decode mM_take.2.1 51 = .ok (.getfield 88, 3) := by decide +kernel
theorem dM_take_54 : decode mM_take.2.1 54 = .ok (.aload_n 0, 1) := by decide +kernel
theorem dM_take_55 : decode mM_take.2.1 55 = .ok (.getfield 191, 3) := by decide +kernel
theorem dM_take_58 : decode mM_take.2.1 58 = .ok (.iconst 0, 1) := by decide +kernel
theorem dM_take_59 : decode mM_take.2.1 59 = .ok (.iastore, 1) := by decide +kernel
theorem dM_take_60 : decode mM_take.2.1 60 = .ok (.return_, 1) := by decide +kernel
theorem dM_total_0 : decode mM_total.2.1 0 = .ok (.aload_n 0, 1) := by decide +kernel
theorem dM_total_1 : decode mM_total.2.1 1 = .ok (.getfield 79, 3) := by decide +kernel
theorem dM_total_4 : decode mM_total.2.1 4 = .ok (.aload_n 0, 1) := by decide +kernel
theorem dM_total_5 : decode mM_total.2.1 5 = .ok (.getfield 191, 3) := by decide +kernel
theorem dM_total_8 : decode mM_total.2.1 8 = .ok (.iaload, 1) := by decide +kernel
theorem dM_total_9 : decode mM_total.2.1 9 = .ok (.aload_n 0, 1) := by decide +kernel
theorem dM_total_10 : decode mM_total.2.1 10 = .ok (.getfield 82, 3) := by decide +kernel
theorem dM_total_13 : decode mM_total.2.1 13 = .ok (.aload_n 0, 1) := by decide +kernel
theorem dM_total_14 : decode mM_total.2.1 14 = .ok (.getfield 191, 3) := by decide +kernel
theorem dM_total_17 : decode mM_total.2.1 17 = .ok (.iaload, 1) := by decide +kernel
theorem dM_total_18 : decode mM_total.2.1 18 = .ok (.aload_n 0, 1) := by decide +kernel
theorem dM_total_19 : decode mM_total.2.1 19 = .ok (.getfield 85, 3) := by decide +kernel
theorem dM_total_22 : decode mM_total.2.1 22 = .ok (.aload_n 0, 1) := by decide +kernel
theorem dM_total_23 : decode mM_total.2.1 23 = .ok (.getfield 191, 3) := by decide +kernel
theorem dM_total_26 : decode mM_total.2.1 26 = .ok (.iaload, 1) := by decide +kernel
theorem dM_total_27 : decode mM_total.2.1 27 = .ok (.imul, 1) := by decide +kernel
theorem dM_total_28 : decode mM_total.2.1 28 = .ok (.iadd, 1) := by decide +kernel
theorem dM_total_29 : decode mM_total.2.1 29 = .ok (.ireturn, 1) := by decide +kernel
theorem dM_restart_0 : decode mM_restart.2.1 0 = .ok (.aload_n 0, 1) := by decide +kernel
theorem dM_restart_1 : decode mM_restart.2.1 1 = .ok (.getfield 79, 3) := by decide +kernel
theorem dM_restart_4 : decode mM_restart.2.1 4 = .ok (.aload_n 0, 1) := by decide +kernel
theorem dM_restart_5 : decode mM_restart.2.1 5 = .ok (.getfield 191, 3) := by decide +kernel
theorem dM_restart_8 : decode mM_restart.2.1 8 = .ok (.iload_n 1, 1) := by decide +kernel
theorem dM_restart_9 : decode mM_restart.2.1 9 = .ok (.iastore, 1) := by decide +kernel
theorem dM_restart_10 : decode mM_restart.2.1 10 = .ok (.aload_n 0, 1) := by decide +kernel
theorem dM_restart_11 : decode mM_restart.2.1 11 = .ok (.getfield 82, 3) := by decide +kernel
theorem dM_restart_14 : decode mM_restart.2.1 14 = .ok (.aload_n 0, 1) := by decide +kernel
theorem dM_restart_15 : decode mM_restart.2.1 15 = .ok (.getfield 191, 3) := by decide +kernel
theorem dM_restart_18 : decode mM_restart.2.1 18 = .ok (.iload_n 2, 1) := by decide +kernel
theorem dM_restart_19 : decode mM_restart.2.1 19 = .ok (.iastore, 1) := by decide +kernel
theorem dM_restart_20 : decode mM_restart.2.1 20 = .ok (.aload_n 0, 1) := by decide +kernel
theorem dM_restart_21 : decode mM_restart.2.1 21 = .ok (.getfield 85, 3) := by decide +kernel
theorem dM_restart_24 : decode mM_restart.2.1 24 = .ok (.aload_n 0, 1) := by decide +kernel
theorem dM_restart_25 : decode mM_restart.2.1 25 = .ok (.getfield 191, 3) := by decide +kernel
theorem dM_restart_28 : decode mM_restart.2.1 28 = .ok (.iconst 1, 1) := by decide +kernel
theorem dM_restart_29 : decode mM_restart.2.1 29 = .ok (.iastore, 1) := by decide +kernel
theorem dM_restart_30 : decode mM_restart.2.1 30 = .ok (.return_, 1) := by decide +kernel
theorem dM_leave_0 : decode mM_leave.2.1 0 = .ok (.aload_n 0, 1) := by decide +kernel
theorem dM_leave_1 : decode mM_leave.2.1 1 = .ok (.getfield 94, 3) := by decide +kernel
theorem dM_leave_4 : decode mM_leave.2.1 4 = .ok (.aload_n 0, 1) := by decide +kernel
theorem dM_leave_5 : decode mM_leave.2.1 5 = .ok (.getfield 191, 3) := by decide +kernel
theorem dM_leave_8 : decode mM_leave.2.1 8 = .ok (.baload, 1) := by decide +kernel
theorem dM_leave_9 : decode mM_leave.2.1 9 = .ok (.ifCond .ne (10), 3) := by decide +kernel
theorem dM_leave_12 : decode mM_leave.2.1 12 = .ok (.aload_n 0, 1) := by decide +kernel
theorem dM_leave_13 : decode mM_leave.2.1 13 = .ok (.invokevirtual 194, 3) := by decide +kernel
theorem dM_leave_16 : decode mM_leave.2.1 16 = .ok (.goto (36), 3) := by decide +kernel
theorem dM_leave_19 : decode mM_leave.2.1 19 = .ok (.iload_n 1, 1) := by decide +kernel
theorem dM_leave_20 : decode mM_leave.2.1 20 = .ok (.ifCond .eq (15), 3) := by decide +kernel
theorem dM_leave_23 : decode mM_leave.2.1 23 = .ok (.aload_n 0, 1) := by decide +kernel
theorem dM_leave_24 : decode mM_leave.2.1 24 = .ok (.getfield 91, 3) := by decide +kernel
theorem dM_leave_27 : decode mM_leave.2.1 27 = .ok (.aload_n 0, 1) := by decide +kernel
theorem dM_leave_28 : decode mM_leave.2.1 28 = .ok (.getfield 191, 3) := by decide +kernel
theorem dM_leave_31 : decode mM_leave.2.1 31 = .ok (.iaload, 1) := by decide +kernel
theorem dM_leave_32 : decode mM_leave.2.1 32 = .ok (.goto (20), 3) := by decide +kernel
theorem dM_leave_35 : decode mM_leave.2.1 35 = .ok (.bipush (31), 2) := by decide +kernel
theorem dM_leave_37 : decode mM_leave.2.1 37 = .ok (.aload_n 0, 1) := by decide +kernel
theorem dM_leave_38 : decode mM_leave.2.1 38 = .ok (.getfield 91, 3) := by decide +kernel
theorem dM_leave_41 : decode mM_leave.2.1 41 = .ok (.aload_n 0, 1) := by decide +kernel
theorem dM_leave_42 : decode mM_leave.2.1 42 = .ok (.getfield 191, 3) := by decide +kernel
theorem dM_leave_45 : decode mM_leave.2.1 45 = .ok (.iaload, 1) := by decide +kernel
theorem dM_leave_46 : decode mM_leave.2.1 46 = .ok (.imul, 1) := by decide +kernel
theorem dM_leave_47 : decode mM_leave.2.1 47 = .ok (.aload_n 0, 1) := by decide +kernel
theorem dM_leave_48 : decode mM_leave.2.1 48 = .ok (.invokevirtual 194, 3) := by decide +kernel
theorem dM_leave_51 : decode mM_leave.2.1 51 = .ok (.iadd, 1) := by decide +kernel
theorem dM_leave_52 : decode mM_leave.2.1 52 = .ok (.istore_n 2, 1) := by decide +kernel
theorem dM_leave_53 : decode mM_leave.2.1 53 = .ok (.aload_n 0, 1) := by decide +kernel
theorem dM_leave_54 : decode mM_leave.2.1 54 = .ok (.dup, 1) := by decide +kernel
theorem dM_leave_55 : decode mM_leave.2.1 55 = .ok (.getfield 191, 3) := by decide +kernel
theorem dM_leave_58 : decode mM_leave.2.1 58 = .ok (.iconst 1, 1) := by decide +kernel
theorem dM_leave_59 : decode mM_leave.2.1 59 = .ok (.isub, 1) := by decide +kernel
theorem dM_leave_60 : decode mM_leave.2.1 60 = .ok (.putfield 191, 3) := by decide +kernel
theorem dM_leave_63 : decode mM_leave.2.1 63 = .ok (.iload_n 2, 1) := by decide +kernel
theorem dM_leave_64 : decode mM_leave.2.1 64 = .ok (.ireturn, 1) := by decide +kernel
theorem dM_operate_0 : decode mM_operate.2.1 0 = .ok (.aload_n 0, 1) := by decide +kernel
theorem dM_operate_1 : decode mM_operate.2.1 1 = .ok (.iload_n 1, 1) := by decide +kernel
theorem dM_operate_2 : decode mM_operate.2.1 2 = .ok (.bipush (44), 2) := by decide +kernel
theorem dM_operate_4 : decode mM_operate.2.1 4 = .ok (.invokevirtual 153, 3) := by decide +kernel
theorem dM_operate_7 : decode mM_operate.2.1 7 = .ok (.ifCond .eq (38), 3) := by decide +kernel
theorem dM_operate_10 : decode mM_operate.2.1 10 = .ok (.aload_n 0, 1) := by decide +kernel
theorem dM_operate_11 : decode mM_operate.2.1 11 = .ok (.getfield 91, 3) := by decide +kernel
theorem dM_operate_14 : decode mM_operate.2.1 14 = .ok (.aload_n 0, 1) := by decide +kernel
theorem dM_operate_15 : decode mM_operate.2.1 15 = .ok (.getfield 191, 3) := by decide +kernel
theorem dM_operate_18 : decode mM_operate.2.1 18 = .ok (.bipush (31), 2) := by decide +kernel
theorem dM_operate_20 : decode mM_operate.2.1 20 = .ok (.aload_n 0, 1) := by decide +kernel
theorem dM_operate_21 : decode mM_operate.2.1 21 = .ok (.getfield 91, 3) := by decide +kernel
theorem dM_operate_24 : decode mM_operate.2.1 24 = .ok (.aload_n 0, 1) := by decide +kernel
theorem dM_operate_25 : decode mM_operate.2.1 25 = .ok (.getfield 191, 3) := by decide +kernel
theorem dM_operate_28 : decode mM_operate.2.1 28 = .ok (.iaload, 1) := by decide +kernel
theorem dM_operate_29 : decode mM_operate.2.1 29 = .ok (.imul, 1) := by decide +kernel
theorem dM_operate_30 : decode mM_operate.2.1 30 = .ok (.aload_n 0, 1) := by decide +kernel
theorem dM_operate_31 : decode mM_operate.2.1 31 = .ok (.invokevirtual 194, 3) := by decide +kernel
theorem dM_operate_34 : decode mM_operate.2.1 34 = .ok (.iadd, 1) := by decide +kernel
theorem dM_operate_35 : decode mM_operate.2.1 35 = .ok (.iastore, 1) := by decide +kernel
theorem dM_operate_36 : decode mM_operate.2.1 36 = .ok (.aload_n 0, 1) := by decide +kernel
theorem dM_operate_37 : decode mM_operate.2.1 37 = .ok (.iconst 0, 1) := by decide +kernel
theorem dM_operate_38 : decode mM_operate.2.1 38 = .ok (.iconst 1, 1) := by decide +kernel
theorem dM_operate_39 : decode mM_operate.2.1 39 = .ok (.invokevirtual 197, 3) := by decide +kernel
theorem dM_operate_42 : decode mM_operate.2.1 42 = .ok (.goto (36), 3) := by decide +kernel
theorem dM_operate_45 : decode mM_operate.2.1 45 = .ok (.aload_n 0, 1) := by decide +kernel
theorem dM_operate_46 : decode mM_operate.2.1 46 = .ok (.iload_n 1, 1) := by decide +kernel
theorem dM_operate_47 : decode mM_operate.2.1 47 = .ok (.bipush (42), 2) := by decide +kernel
theorem dM_operate_49 : decode mM_operate.2.1 49 = .ok (.invokevirtual 153, 3) := by decide +kernel
theorem dM_operate_52 : decode mM_operate.2.1 52 = .ok (.ifCond .ne (26), 3) := by decide +kernel
theorem dM_operate_55 : decode mM_operate.2.1 55 = .ok (.aload_n 0, 1) := by decide +kernel
theorem dM_operate_56 : decode mM_operate.2.1 56 = .ok (.aload_n 0, 1) := by decide +kernel
theorem dM_operate_57 : decode mM_operate.2.1 57 = .ok (.invokevirtual 194, 3) := by decide +kernel
theorem dM_operate_60 : decode mM_operate.2.1 60 = .ok (.aload_n 0, 1) := by decide +kernel
theorem dM_operate_61 : decode mM_operate.2.1 61 = .ok (.iload_n 1, 1) := by decide +kernel
theorem dM_operate_62 : decode mM_operate.2.1 62 = .ok (.bipush (43), 2) := by decide +kernel
theorem dM_operate_64 : decode mM_operate.2.1 64 = .ok (.invokevirtual 153, 3) := by decide +kernel
theorem dM_operate_67 : decode mM_operate.2.1 67 = .ok (.ifCond .eq (7), 3) := by decide +kernel
theorem dM_operate_70 : decode mM_operate.2.1 70 = .ok (.iconst 1, 1) := by decide +kernel
theorem dM_operate_71 : decode mM_operate.2.1 71 = .ok (.goto (4), 3) := by decide +kernel
theorem dM_operate_74 : decode mM_operate.2.1 74 = .ok (.iconst (-1), 1) := by decide +kernel
theorem dM_operate_75 : decode mM_operate.2.1 75 = .ok (.invokevirtual 197, 3) := by decide +kernel
theorem dM_operate_78 : decode mM_operate.2.1 78 = .ok (.return_, 1) := by decide +kernel
theorem dM_valueOf_0 : decode mM_valueOf.2.1 0 = .ok (.aload_n 0, 1) := by decide +kernel
theorem dM_valueOf_1 : decode mM_valueOf.2.1 1 = .ok (.iconst (-1), 1) := by decide +kernel
theorem dM_valueOf_2 : decode mM_valueOf.2.1 2 = .ok (.putfield 191, 3) := by decide +kernel
theorem dM_valueOf_5 : decode mM_valueOf.2.1 5 = .ok (.aload_n 0, 1) := by decide +kernel
theorem dM_valueOf_6 : decode mM_valueOf.2.1 6 = .ok (.iconst 0, 1) := by decide +kernel
theorem dM_valueOf_7 : decode mM_valueOf.2.1 7 = .ok (.iconst 0, 1) := by decide +kernel
theorem dM_valueOf_8 : decode mM_valueOf.2.1 8 = .ok (.invokevirtual 200, 3) := by decide +kernel
theorem dM_valueOf_11 : decode mM_valueOf.2.1 11 = .ok (.iconst 1, 1) := by decide +kernel
theorem dM_valueOf_12 : decode mM_valueOf.2.1 12 = .ok (.istore 4, 2) := by decide +kernel
theorem dM_valueOf_14 : decode mM_valueOf.2.1 14 = .ok (.iload_n 2, 1) := by decide +kernel
theorem dM_valueOf_15 : decode mM_valueOf.2.1 15 = .ok (.istore 5, 2) := by decide +kernel
theorem dM_valueOf_17 : decode mM_valueOf.2.1 17 = .ok (.iload 5, 2) := by decide +kernel
theorem dM_valueOf_19 : decode mM_valueOf.2.1 19 = .ok (.iload_n 3, 1) := by decide +kernel
theorem dM_valueOf_20 : decode mM_valueOf.2.1 20 = .ok (.if_icmp .ge (261), 3) := by decide +kernel
theorem dM_valueOf_23 : decode mM_valueOf.2.1 23 = .ok (.aload_n 0, 1) := by decide +kernel
theorem dM_valueOf_24 : decode mM_valueOf.2.1 24 = .ok (.iload 5, 2) := by decide +kernel
theorem dM_valueOf_26 : decode mM_valueOf.2.1 26 = .ok (.bipush (40), 2) := by decide +kernel
theorem dM_valueOf_28 : decode mM_valueOf.2.1 28 = .ok (.invokevirtual 153, 3) := by decide +kernel
theorem dM_valueOf_31 : decode mM_valueOf.2.1 31 = .ok (.ifCond .eq (58), 3) := by decide +kernel
theorem dM_valueOf_34 : decode mM_valueOf.2.1 34 = .ok (.aload_n 0, 1) := by decide +kernel
theorem dM_valueOf_35 : decode mM_valueOf.2.1 35 = .ok (.getfield 23, 3) := by decide +kernel
theorem dM_valueOf_38 : decode mM_valueOf.2.1 38 = .ok (.iload 5, 2) := by decide +kernel
theorem dM_valueOf_40 : decode mM_valueOf.2.1 40 = .ok (.iconst 1, 1) := by decide +kernel
theorem dM_valueOf_41 : decode mM_valueOf.2.1 41 = .ok (.isub, 1) := by decide +kernel
theorem dM_valueOf_42 : decode mM_valueOf.2.1 42 = .ok (.iaload, 1) := by decide +kernel
theorem dM_valueOf_43 : decode mM_valueOf.2.1 43 = .ok (.ifCond .ne (13), 3) := by decide +kernel
theorem dM_valueOf_46 : decode mM_valueOf.2.1 46 = .ok (.iload 5, 2) := by decide +kernel
theorem dM_valueOf_48 : decode mM_valueOf.2.1 48 = .ok (.iload_n 2, 1) := by decide +kernel
theorem dM_valueOf_49 : decode mM_valueOf.2.1 49 = .ok (.if_icmp .le (7), 3) := by decide +kernel
theorem dM_valueOf_52 : decode mM_valueOf.2.1 52 = .ok (.iconst 1, 1) := by decide +kernel
theorem dM_valueOf_53 : decode mM_valueOf.2.1 53 = .ok (.goto (4), 3) := by decide +kernel
theorem dM_valueOf_56 : decode mM_valueOf.2.1 56 = .ok (.iconst 0, 1) := by decide +kernel
theorem dM_valueOf_57 : decode mM_valueOf.2.1 57 = .ok (.istore 6, 2) := by decide +kernel
theorem dM_valueOf_59 : decode mM_valueOf.2.1 59 = .ok (.aload_n 0, 1) := by decide +kernel
theorem dM_valueOf_60 : decode mM_valueOf.2.1 60 = .ok (.iload 6, 2) := by decide +kernel
theorem dM_valueOf_62 : decode mM_valueOf.2.1 62 = .ok (.iload 6, 2) := by decide +kernel
theorem dM_valueOf_64 : decode mM_valueOf.2.1 64 = .ok (.ifCond .eq (15), 3) := by decide +kernel
theorem dM_valueOf_67 : decode mM_valueOf.2.1 67 = .ok (.aload_n 0, 1) := by decide +kernel
theorem dM_valueOf_68 : decode mM_valueOf.2.1 68 = .ok (.getfield 20, 3) := by decide +kernel
theorem dM_valueOf_71 : decode mM_valueOf.2.1 71 = .ok (.iload 5, 2) := by decide +kernel
theorem dM_valueOf_73 : decode mM_valueOf.2.1 73 = .ok (.iconst 1, 1) := by decide +kernel
theorem dM_valueOf_74 : decode mM_valueOf.2.1 74 = .ok (.isub, 1) := by decide +kernel
theorem dM_valueOf_75 : decode mM_valueOf.2.1 75 = .ok (.iaload, 1) := by decide +kernel
theorem dM_valueOf_76 : decode mM_valueOf.2.1 76 = .ok (.goto (4), 3) := by decide +kernel
theorem dM_valueOf_79 : decode mM_valueOf.2.1 79 = .ok (.iconst 0, 1) := by decide +kernel
theorem dM_valueOf_80 : decode mM_valueOf.2.1 80 = .ok (.invokevirtual 200, 3) := by decide +kernel
theorem dM_valueOf_83 : decode mM_valueOf.2.1 83 = .ok (.iconst 1, 1) := by decide +kernel
theorem dM_valueOf_84 : decode mM_valueOf.2.1 84 = .ok (.istore 4, 2) := by decide +kernel
theorem dM_valueOf_86 : decode mM_valueOf.2.1 86 = .ok (.goto (189), 3) := by decide +kernel
theorem dM_valueOf_89 : decode mM_valueOf.2.1 89 = .ok (.aload_n 0, 1) := by decide +kernel
theorem dM_valueOf_90 : decode mM_valueOf.2.1 90 = .ok (.iload 5, 2) := by decide +kernel
theorem dM_valueOf_92 : decode mM_valueOf.2.1 92 = .ok (.bipush (41), 2) := by decide +kernel
theorem dM_valueOf_94 : decode mM_valueOf.2.1 94 = .ok (.invokevirtual 153, 3) := by decide +kernel
theorem dM_valueOf_97 : decode mM_valueOf.2.1 97 = .ok (.ifCond .eq (31), 3) := by decide +kernel
theorem dM_valueOf_100 : decode mM_valueOf.2.1 100 = .ok (.aload_n 0, 1) := by decide +kernel
theorem dM_valueOf_101 : decode mM_valueOf.2.1 101 = .ok (.aload_n 0, 1) := by decide +kernel
theorem dM_valueOf_102 : decode mM_valueOf.2.1 102 = .ok (.iload 5, 2) := by decide +kernel
theorem dM_valueOf_104 : decode mM_valueOf.2.1 104 = .ok (.iconst 1, 1) := by decide +kernel
theorem dM_valueOf_105 : decode mM_valueOf.2.1 105 = .ok (.isub, 1) := by decide +kernel
theorem dM_valueOf_106 : decode mM_valueOf.2.1 106 = .ok (.bipush (40), 2) := by decide +kernel
