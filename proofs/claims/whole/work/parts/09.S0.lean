theorem dS_init_0 : decode mS_init.2.1 0 = .ok (.aload_n 0, 1) := by decide +kernel
theorem dS_init_1 : decode mS_init.2.1 1 = .ok (.invokespecial 3, 3) := by decide +kernel
theorem dS_init_4 : decode mS_init.2.1 4 = .ok (.aload_n 0, 1) := by decide +kernel
theorem dS_init_5 : decode mS_init.2.1 5 = .ok (.sipush (160), 3) := by decide +kernel
theorem dS_init_8 : decode mS_init.2.1 8 = .ok (.newarray .char, 2) := by decide +kernel
theorem dS_init_10 : decode mS_init.2.1 10 = .ok (.putfield 9, 3) := by decide +kernel
theorem dS_init_13 : decode mS_init.2.1 13 = .ok (.aload_n 0, 1) := by decide +kernel
theorem dS_init_14 : decode mS_init.2.1 14 = .ok (.sipush (160), 3) := by decide +kernel
theorem dS_init_17 : decode mS_init.2.1 17 = .ok (.newarray .int, 2) := by decide +kernel
theorem dS_init_19 : decode mS_init.2.1 19 = .ok (.putfield 15, 3) := by decide +kernel
theorem dS_init_22 : decode mS_init.2.1 22 = .ok (.aload_n 0, 1) := by decide +kernel
theorem dS_init_23 : decode mS_init.2.1 23 = .ok (.sipush (160), 3) := by decide +kernel
theorem dS_init_26 : decode mS_init.2.1 26 = .ok (.newarray .char, 2) := by decide +kernel
theorem dS_init_28 : decode mS_init.2.1 28 = .ok (.putfield 19, 3) := by decide +kernel
theorem dS_init_31 : decode mS_init.2.1 31 = .ok (.return_, 1) := by decide +kernel
theorem dS_fill_0 : decode mS_fill.2.1 0 = .ok (.iload_n 2, 1) := by decide +kernel
theorem dS_fill_1 : decode mS_fill.2.1 1 = .ok (.iload_n 3, 1) := by decide +kernel
theorem dS_fill_2 : decode mS_fill.2.1 2 = .ok (.iadd, 1) := by decide +kernel
theorem dS_fill_3 : decode mS_fill.2.1 3 = .ok (.istore 6, 2) := by decide +kernel
theorem dS_fill_5 : decode mS_fill.2.1 5 = .ok (.aload_n 1, 1) := by decide +kernel
theorem dS_fill_6 : decode mS_fill.2.1 6 = .ok (.getfield 9, 3) := by decide +kernel
theorem dS_fill_9 : decode mS_fill.2.1 9 = .ok (.iconst 0, 1) := by decide +kernel
theorem dS_fill_10 : decode mS_fill.2.1 10 = .ok (.aload_n 0, 1) := by decide +kernel
theorem dS_fill_11 : decode mS_fill.2.1 11 = .ok (.getfield 9, 3) := by decide +kernel
theorem dS_fill_14 : decode mS_fill.2.1 14 = .ok (.iconst 0, 1) := by decide +kernel
theorem dS_fill_15 : decode mS_fill.2.1 15 = .ok (.iload_n 2, 1) := by decide +kernel
theorem dS_fill_16 : decode mS_fill.2.1 16 = .ok (.invokestatic 22, 3) := by decide +kernel
theorem dS_fill_19 : decode mS_fill.2.1 19 = .ok (.aload 4, 2) := by decide +kernel
theorem dS_fill_21 : decode mS_fill.2.1 21 = .ok (.iconst 0, 1) := by decide +kernel
theorem dS_fill_22 : decode mS_fill.2.1 22 = .ok (.aload_n 0, 1) := by decide +kernel
theorem dS_fill_23 : decode mS_fill.2.1 23 = .ok (.getfield 9, 3) := by decide +kernel
theorem dS_fill_26 : decode mS_fill.2.1 26 = .ok (.iload_n 2, 1) := by decide +kernel
theorem dS_fill_27 : decode mS_fill.2.1 27 = .ok (.iload 5, 2) := by decide +kernel
theorem dS_fill_29 : decode mS_fill.2.1 29 = .ok (.invokestatic 22, 3) := by decide +kernel
theorem dS_fill_32 : decode mS_fill.2.1 32 = .ok (.aload_n 1, 1) := by decide +kernel
theorem dS_fill_33 : decode mS_fill.2.1 33 = .ok (.getfield 9, 3) := by decide +kernel
theorem dS_fill_36 : decode mS_fill.2.1 36 = .ok (.iload 6, 2) := by decide +kernel
theorem dS_fill_38 : decode mS_fill.2.1 38 = .ok (.aload_n 0, 1) := by decide +kernel
theorem dS_fill_39 : decode mS_fill.2.1 39 = .ok (.getfield 9, 3) := by decide +kernel
theorem dS_fill_42 : decode mS_fill.2.1 42 = .ok (.iload_n 2, 1) := by decide +kernel
theorem dS_fill_43 : decode mS_fill.2.1 43 = .ok (.iload 5, 2) := by decide +kernel
theorem dS_fill_45 : decode mS_fill.2.1 45 = .ok (.iadd, 1) := by decide +kernel
theorem dS_fill_46 : decode mS_fill.2.1 46 = .ok (.aload_n 1, 1) := by decide +kernel
theorem dS_fill_47 : decode mS_fill.2.1 47 = .ok (.getfield 28, 3) := by decide +kernel
theorem dS_fill_50 : decode mS_fill.2.1 50 = .ok (.iload 6, 2) := by decide +kernel
theorem dS_fill_52 : decode mS_fill.2.1 52 = .ok (.isub, 1) := by decide +kernel
theorem dS_fill_53 : decode mS_fill.2.1 53 = .ok (.invokestatic 22, 3) := by decide +kernel
theorem dS_fill_56 : decode mS_fill.2.1 56 = .ok (.aload_n 0, 1) := by decide +kernel
theorem dS_fill_57 : decode mS_fill.2.1 57 = .ok (.aload_n 1, 1) := by decide +kernel
theorem dS_fill_58 : decode mS_fill.2.1 58 = .ok (.getfield 28, 3) := by decide +kernel
theorem dS_fill_61 : decode mS_fill.2.1 61 = .ok (.iload_n 3, 1) := by decide +kernel
theorem dS_fill_62 : decode mS_fill.2.1 62 = .ok (.isub, 1) := by decide +kernel
theorem dS_fill_63 : decode mS_fill.2.1 63 = .ok (.iload 5, 2) := by decide +kernel
theorem dS_fill_65 : decode mS_fill.2.1 65 = .ok (.iadd, 1) := by decide +kernel
theorem dS_fill_66 : decode mS_fill.2.1 66 = .ok (.putfield 28, 3) := by decide +kernel
theorem dS_fill_69 : decode mS_fill.2.1 69 = .ok (.return_, 1) := by decide +kernel
theorem dS_findTokens_0 : decode mS_findTokens.2.1 0 = .ok (.aload_n 0, 1) := by decide +kernel
theorem dS_findTokens_1 : decode mS_findTokens.2.1 1 = .ok (.iconst 0, 1) := by decide +kernel
theorem dS_findTokens_2 : decode mS_findTokens.2.1 2 = .ok (.putfield 32, 3) := by decide +kernel
theorem dS_findTokens_5 : decode mS_findTokens.2.1 5 = .ok (.aload_n 0, 1) := by decide +kernel
theorem dS_findTokens_6 : decode mS_findTokens.2.1 6 = .ok (.iconst 0, 1) := by decide +kernel
theorem dS_findTokens_7 : decode mS_findTokens.2.1 7 = .ok (.invokevirtual 35, 3) := by decide +kernel
theorem dS_findTokens_10 : decode mS_findTokens.2.1 10 = .ok (.istore_n 1, 1) := by decide +kernel
theorem dS_findTokens_11 : decode mS_findTokens.2.1 11 = .ok (.iload_n 1, 1) := by decide +kernel
theorem dS_findTokens_12 : decode mS_findTokens.2.1 12 = .ok (.aload_n 0, 1) := by decide +kernel
theorem dS_findTokens_13 : decode mS_findTokens.2.1 13 = .ok (.getfield 28, 3) := by decide +kernel
theorem dS_findTokens_16 : decode mS_findTokens.2.1 16 = .ok (.if_icmp .ge (83), 3) := by decide +kernel
theorem dS_findTokens_19 : decode mS_findTokens.2.1 19 = .ok (.aload_n 0, 1) := by decide +kernel
theorem dS_findTokens_20 : decode mS_findTokens.2.1 20 = .ok (.getfield 32, 3) := by decide +kernel
theorem dS_findTokens_23 : decode mS_findTokens.2.1 23 = .ok (.sipush (160), 3) := by decide +kernel
theorem dS_findTokens_26 : decode mS_findTokens.2.1 26 = .ok (.if_icmp .ge (73), 3) := by decide +kernel
theorem dS_findTokens_29 : decode mS_findTokens.2.1 29 = .ok (.aload_n 0, 1) := by decide +kernel
theorem dS_findTokens_30 : decode mS_findTokens.2.1 30 = .ok (.getfield 15, 3) := by decide +kernel
theorem dS_findTokens_33 : decode mS_findTokens.2.1 33 = .ok (.aload_n 0, 1) := by decide +kernel
theorem dS_findTokens_34 : decode mS_findTokens.2.1 34 = .ok (.getfield 32, 3) := by decide +kernel
theorem dS_findTokens_37 : decode mS_findTokens.2.1 37 = .ok (.aload_n 0, 1) := by decide +kernel
theorem dS_findTokens_38 : decode mS_findTokens.2.1 38 = .ok (.iload_n 1, 1) := by decide +kernel
theorem dS_findTokens_39 : decode mS_findTokens.2.1 39 = .ok (.invokevirtual 39, 3) := by decide +kernel
theorem dS_findTokens_42 : decode mS_findTokens.2.1 42 = .ok (.iastore, 1) := by decide +kernel
theorem dS_findTokens_43 : decode mS_findTokens.2.1 43 = .ok (.aload_n 0, 1) := by decide +kernel
theorem dS_findTokens_44 : decode mS_findTokens.2.1 44 = .ok (.getfield 19, 3) := by decide +kernel
theorem dS_findTokens_47 : decode mS_findTokens.2.1 47 = .ok (.aload_n 0, 1) := by decide +kernel
theorem dS_findTokens_48 : decode mS_findTokens.2.1 48 = .ok (.getfield 32, 3) := by decide +kernel
theorem dS_findTokens_51 : decode mS_findTokens.2.1 51 = .ok (.aload_n 0, 1) := by decide +kernel
theorem dS_findTokens_52 : decode mS_findTokens.2.1 52 = .ok (.getfield 15, 3) := by decide +kernel
theorem dS_findTokens_55 : decode mS_findTokens.2.1 55 = .ok (.aload_n 0, 1) := by decide +kernel
theorem dS_findTokens_56 : decode mS_findTokens.2.1 56 = .ok (.getfield 32, 3) := by decide +kernel
theorem dS_findTokens_59 : decode mS_findTokens.2.1 59 = .ok (.iaload, 1) := by decide +kernel
theorem dS_findTokens_60 : decode mS_findTokens.2.1 60 = .ok (.bipush (8), 2) := by decide +kernel
theorem dS_findTokens_62 : decode mS_findTokens.2.1 62 = .ok (.irem, 1) := by decide +kernel
theorem dS_findTokens_63 : decode mS_findTokens.2.1 63 = .ok (.aload_n 0, 1) := by decide +kernel
theorem dS_findTokens_64 : decode mS_findTokens.2.1 64 = .ok (.getfield 9, 3) := by decide +kernel
theorem dS_findTokens_67 : decode mS_findTokens.2.1 67 = .ok (.iload_n 1, 1) := by decide +kernel
theorem dS_findTokens_68 : decode mS_findTokens.2.1 68 = .ok (.caload, 1) := by decide +kernel
theorem dS_findTokens_69 : decode mS_findTokens.2.1 69 = .ok (.invokestatic 42, 3) := by decide +kernel
theorem dS_findTokens_72 : decode mS_findTokens.2.1 72 = .ok (.castore, 1) := by decide +kernel
theorem dS_findTokens_73 : decode mS_findTokens.2.1 73 = .ok (.aload_n 0, 1) := by decide +kernel
theorem dS_findTokens_74 : decode mS_findTokens.2.1 74 = .ok (.aload_n 0, 1) := by decide +kernel
theorem dS_findTokens_75 : decode mS_findTokens.2.1 75 = .ok (.aload_n 0, 1) := by decide +kernel
theorem dS_findTokens_76 : decode mS_findTokens.2.1 76 = .ok (.getfield 32, 3) := by decide +kernel
theorem dS_findTokens_79 : decode mS_findTokens.2.1 79 = .ok (.invokevirtual 46, 3) := by decide +kernel
theorem dS_findTokens_82 : decode mS_findTokens.2.1 82 = .ok (.invokevirtual 35, 3) := by decide +kernel
theorem dS_findTokens_85 : decode mS_findTokens.2.1 85 = .ok (.istore_n 1, 1) := by decide +kernel
theorem dS_findTokens_86 : decode mS_findTokens.2.1 86 = .ok (.aload_n 0, 1) := by decide +kernel
theorem dS_findTokens_87 : decode mS_findTokens.2.1 87 = .ok (.dup, 1) := by decide +kernel
theorem dS_findTokens_88 : decode mS_findTokens.2.1 88 = .ok (.getfield 32, 3) := by decide +kernel
theorem dS_findTokens_91 : decode mS_findTokens.2.1 91 = .ok (.iconst 1, 1) := by decide +kernel
theorem dS_findTokens_92 : decode mS_findTokens.2.1 92 = .ok (.iadd, 1) := by decide +kernel
theorem dS_findTokens_93 : decode mS_findTokens.2.1 93 = .ok (.putfield 32, 3) := by decide +kernel
theorem dS_findTokens_96 : decode mS_findTokens.2.1 96 = .ok (.goto (-85), 3) := by decide +kernel
theorem dS_findTokens_99 : decode mS_findTokens.2.1 99 = .ok (.return_, 1) := by decide +kernel
theorem dS_passBlanks_0 : decode mS_passBlanks.2.1 0 = .ok (.iconst 0, 1) := by decide +kernel
theorem dS_passBlanks_1 : decode mS_passBlanks.2.1 1 = .ok (.istore_n 2, 1) := by decide +kernel
theorem dS_passBlanks_2 : decode mS_passBlanks.2.1 2 = .ok (.iload_n 1, 1) := by decide +kernel
theorem dS_passBlanks_3 : decode mS_passBlanks.2.1 3 = .ok (.istore_n 3, 1) := by decide +kernel
theorem dS_passBlanks_4 : decode mS_passBlanks.2.1 4 = .ok (.iload_n 3, 1) := by decide +kernel
theorem dS_passBlanks_5 : decode mS_passBlanks.2.1 5 = .ok (.aload_n 0, 1) := by decide +kernel
theorem dS_passBlanks_6 : decode mS_passBlanks.2.1 6 = .ok (.getfield 28, 3) := by decide +kernel
theorem dS_passBlanks_9 : decode mS_passBlanks.2.1 9 = .ok (.if_icmp .ge (54), 3) := by decide +kernel
theorem dS_passBlanks_12 : decode mS_passBlanks.2.1 12 = .ok (.aload_n 0, 1) := by decide +kernel
theorem dS_passBlanks_13 : decode mS_passBlanks.2.1 13 = .ok (.getfield 9, 3) := by decide +kernel
theorem dS_passBlanks_16 : decode mS_passBlanks.2.1 16 = .ok (.iload_n 3, 1) := by decide +kernel
theorem dS_passBlanks_17 : decode mS_passBlanks.2.1 17 = .ok (.caload, 1) := by decide +kernel
theorem dS_passBlanks_18 : decode mS_passBlanks.2.1 18 = .ok (.istore 4, 2) := by decide +kernel
theorem dS_passBlanks_20 : decode mS_passBlanks.2.1 20 = .ok (.iload 4, 2) := by decide +kernel
theorem dS_passBlanks_22 : decode mS_passBlanks.2.1 22 = .ok (.bipush (10), 2) := by decide +kernel
theorem dS_passBlanks_24 : decode mS_passBlanks.2.1 24 = .ok (.if_icmp .ne (8), 3) := by decide +kernel
theorem dS_passBlanks_27 : decode mS_passBlanks.2.1 27 = .ok (.iconst 0, 1) := by decide +kernel
theorem dS_passBlanks_28 : decode mS_passBlanks.2.1 28 = .ok (.istore_n 2, 1) := by decide +kernel
theorem dS_passBlanks_29 : decode mS_passBlanks.2.1 29 = .ok (.goto (28), 3) := by decide +kernel
theorem dS_passBlanks_32 : decode mS_passBlanks.2.1 32 = .ok (.iload 4, 2) := by decide +kernel
theorem dS_passBlanks_34 : decode mS_passBlanks.2.1 34 = .ok (.bipush (35), 2) := by decide +kernel
theorem dS_passBlanks_36 : decode mS_passBlanks.2.1 36 = .ok (.if_icmp .ne (8), 3) := by decide +kernel
theorem dS_passBlanks_39 : decode mS_passBlanks.2.1 39 = .ok (.iconst 1, 1) := by decide +kernel
theorem dS_passBlanks_40 : decode mS_passBlanks.2.1 40 = .ok (.istore_n 2, 1) := by decide +kernel
theorem dS_passBlanks_41 : decode mS_passBlanks.2.1 41 = .ok (.goto (16), 3) := by decide +kernel
theorem dS_passBlanks_44 : decode mS_passBlanks.2.1 44 = .ok (.iload 4, 2) := by decide +kernel
theorem dS_passBlanks_46 : decode mS_passBlanks.2.1 46 = .ok (.bipush (32), 2) := by decide +kernel
theorem dS_passBlanks_48 : decode mS_passBlanks.2.1 48 = .ok (.if_icmp .eq (9), 3) := by decide +kernel
theorem dS_passBlanks_51 : decode mS_passBlanks.2.1 51 = .ok (.iload_n 2, 1) := by decide +kernel
theorem dS_passBlanks_52 : decode mS_passBlanks.2.1 52 = .ok (.ifCond .ne (5), 3) := by decide +kernel
theorem dS_passBlanks_55 : decode mS_passBlanks.2.1 55 = .ok (.iload_n 3, 1) := by decide +kernel
theorem dS_passBlanks_56 : decode mS_passBlanks.2.1 56 = .ok (.ireturn, 1) := by decide +kernel
theorem dS_passBlanks_57 : decode mS_passBlanks.2.1 57 = .ok (.iinc 3 (1), 3) := by decide +kernel
theorem dS_passBlanks_60 : decode mS_passBlanks.2.1 60 = .ok (.goto (-56), 3) := by decide +kernel
theorem dS_passBlanks_63 : decode mS_passBlanks.2.1 63 = .ok (.aload_n 0, 1) := by decide +kernel
theorem dS_passBlanks_64 : decode mS_passBlanks.2.1 64 = .ok (.getfield 28, 3) := by decide +kernel
theorem dS_passBlanks_67 : decode mS_passBlanks.2.1 67 = .ok (.ireturn, 1) := by decide +kernel
theorem dS_tokenFrom_0 : decode mS_tokenFrom.2.1 0 = .ok (.aload_n 0, 1) := by decide +kernel
theorem dS_tokenFrom_1 : decode mS_tokenFrom.2.1 1 = .ok (.getfield 9, 3) := by decide +kernel
theorem dS_tokenFrom_4 : decode mS_tokenFrom.2.1 4 = .ok (.iload_n 1, 1) := by decide +kernel
theorem dS_tokenFrom_5 : decode mS_tokenFrom.2.1 5 = .ok (.caload, 1) := by decide +kernel
theorem dS_tokenFrom_6 : decode mS_tokenFrom.2.1 6 = .ok (.istore_n 2, 1) := by decide +kernel
theorem dS_tokenFrom_7 : decode mS_tokenFrom.2.1 7 = .ok (.iload_n 2, 1) := by decide +kernel
theorem dS_tokenFrom_8 : decode mS_tokenFrom.2.1 8 = .ok (.bipush (34), 2) := by decide +kernel
theorem dS_tokenFrom_10 : decode mS_tokenFrom.2.1 10 = .ok (.if_icmp .ne (9), 3) := by decide +kernel
theorem dS_tokenFrom_13 : decode mS_tokenFrom.2.1 13 = .ok (.aload_n 0, 1) := by decide +kernel
theorem dS_tokenFrom_14 : decode mS_tokenFrom.2.1 14 = .ok (.iload_n 1, 1) := by decide +kernel
theorem dS_tokenFrom_15 : decode mS_tokenFrom.2.1 15 = .ok (.invokevirtual 49, 3) := by decide +kernel
theorem dS_tokenFrom_18 : decode mS_tokenFrom.2.1 18 = .ok (.ireturn, 1) := by decide +kernel
theorem dS_tokenFrom_19 : decode mS_tokenFrom.2.1 19 = .ok (.iload_n 2, 1) := by decide +kernel
theorem dS_tokenFrom_20 : decode mS_tokenFrom.2.1 20 = .ok (.invokestatic 52, 3) := by decide +kernel
theorem dS_tokenFrom_23 : decode mS_tokenFrom.2.1 23 = .ok (.ifCond .eq (15), 3) := by decide +kernel
theorem dS_tokenFrom_26 : decode mS_tokenFrom.2.1 26 = .ok (.iload_n 1, 1) := by decide +kernel
theorem dS_tokenFrom_27 : decode mS_tokenFrom.2.1 27 = .ok (.aload_n 0, 1) := by decide +kernel
theorem dS_tokenFrom_28 : decode mS_tokenFrom.2.1 28 = .ok (.iload_n 1, 1) := by decide +kernel
theorem dS_tokenFrom_29 : decode mS_tokenFrom.2.1 29 = .ok (.iconst 1, 1) := by decide +kernel
theorem dS_tokenFrom_30 : decode mS_tokenFrom.2.1 30 = .ok (.invokevirtual 56, 3) := by decide +kernel
theorem dS_tokenFrom_33 : decode mS_tokenFrom.2.1 33 = .ok (.iconst 0, 1) := by decide +kernel
theorem dS_tokenFrom_34 : decode mS_tokenFrom.2.1 34 = .ok (.invokestatic 60, 3) := by decide +kernel
theorem dS_tokenFrom_37 : decode mS_tokenFrom.2.1 37 = .ok (.ireturn, 1) := by decide +kernel
theorem dS_tokenFrom_38 : decode mS_tokenFrom.2.1 38 = .ok (.iload_n 2, 1) := by decide +kernel
theorem dS_tokenFrom_39 : decode mS_tokenFrom.2.1 39 = .ok (.invokestatic 64, 3) := by decide +kernel
theorem dS_tokenFrom_42 : decode mS_tokenFrom.2.1 42 = .ok (.ifCond .eq (15), 3) := by decide +kernel
theorem dS_tokenFrom_45 : decode mS_tokenFrom.2.1 45 = .ok (.iload_n 1, 1) := by decide +kernel
theorem dS_tokenFrom_46 : decode mS_tokenFrom.2.1 46 = .ok (.aload_n 0, 1) := by decide +kernel
theorem dS_tokenFrom_47 : decode mS_tokenFrom.2.1 47 = .ok (.iload_n 1, 1) := by decide +kernel
theorem dS_tokenFrom_48 : decode mS_tokenFrom.2.1 48 = .ok (.iconst 0, 1) := by decide +kernel
theorem dS_tokenFrom_49 : decode mS_tokenFrom.2.1 49 = .ok (.invokevirtual 56, 3) := by decide +kernel
theorem dS_tokenFrom_52 : decode mS_tokenFrom.2.1 52 = .ok (.iconst 1, 1) := by decide +kernel
theorem dS_tokenFrom_53 : decode mS_tokenFrom.2.1 53 = .ok (.invokestatic 60, 3) := by decide +kernel
theorem dS_tokenFrom_56 : decode mS_tokenFrom.2.1 56 = .ok (.ireturn, 1) := by decide +kernel
theorem dS_tokenFrom_57 : decode mS_tokenFrom.2.1 57 = .ok (.iload_n 1, 1) := by decide +kernel
theorem dS_tokenFrom_58 : decode mS_tokenFrom.2.1 58 = .ok (.iload_n 1, 1) := by decide +kernel
theorem dS_tokenFrom_59 : decode mS_tokenFrom.2.1 59 = .ok (.iconst 1, 1) := by decide +kernel
theorem dS_tokenFrom_60 : decode mS_tokenFrom.2.1 60 = .ok (.iadd, 1) := by decide +kernel
theorem dS_tokenFrom_61 : decode mS_tokenFrom.2.1 61 = .ok (.ldc 67, 2) := by decide +kernel
theorem dS_tokenFrom_63 : decode mS_tokenFrom.2.1 63 = .ok (.iload_n 2, 1) := by decide +kernel
theorem dS_tokenFrom_64 : decode mS_tokenFrom.2.1 64 = .ok (.invokevirtual 69, 3) := by decide +kernel
theorem dS_tokenFrom_67 : decode mS_tokenFrom.2.1 67 = .ok (.ifCond .lt (7), 3) := by decide +kernel
theorem dS_tokenFrom_70 : decode mS_tokenFrom.2.1 70 = .ok (.iconst 3, 1) := by decide +kernel
theorem dS_tokenFrom_71 : decode mS_tokenFrom.2.1 71 = .ok (.goto (4), 3) := by decide +kernel
theorem dS_tokenFrom_74 : decode mS_tokenFrom.2.1 74 = .ok (.iconst 4, 1) := by decide +kernel
theorem dS_tokenFrom_75 : decode mS_tokenFrom.2.1 75 = .ok (.invokestatic 60, 3) := by decide +kernel
theorem dS_tokenFrom_78 : decode mS_tokenFrom.2.1 78 = .ok (.ireturn, 1) := by decide +kernel
theorem dS_markOf_0 : decode mS_markOf.2.1 0 = .ok (.iload_n 0, 1) := by decide +kernel
theorem dS_markOf_1 : decode mS_markOf.2.1 1 = .ok (.tableswitch (42) (0) (3) #[31, 34, 37, 40], 31) := by decide +kernel
theorem dS_markOf_32 : decode mS_markOf.2.1 32 = .ok (.bipush (97), 2) := by decide +kernel
theorem dS_markOf_34 : decode mS_markOf.2.1 34 = .ok (.ireturn, 1) := by decide +kernel
theorem dS_markOf_35 : decode mS_markOf.2.1 35 = .ok (.bipush (48), 2) := by decide +kernel
theorem dS_markOf_37 : decode mS_markOf.2.1 37 = .ok (.ireturn, 1) := by decide +kernel
theorem dS_markOf_38 : decode mS_markOf.2.1 38 = .ok (.bipush (34), 2) := by decide +kernel
theorem dS_markOf_40 : decode mS_markOf.2.1 40 = .ok (.ireturn, 1) := by decide +kernel
theorem dS_markOf_41 : decode mS_markOf.2.1 41 = .ok (.iload_n 1, 1) := by decide +kernel
theorem dS_markOf_42 : decode mS_markOf.2.1 42 = .ok (.ireturn, 1) := by decide +kernel
theorem dS_markOf_43 : decode mS_markOf.2.1 43 = .ok (.bipush (63), 2) := by decide +kernel
theorem dS_markOf_45 : decode mS_markOf.2.1 45 = .ok (.ireturn, 1) := by decide +kernel
theorem dS_quotedFrom_0 : decode mS_quotedFrom.2.1 0 = .ok (.iload_n 1, 1) := by decide +kernel
theorem dS_quotedFrom_1 : decode mS_quotedFrom.2.1 1 = .ok (.iconst 1, 1) := by decide +kernel
theorem dS_quotedFrom_2 : decode mS_quotedFrom.2.1 2 = .ok (.iadd, 1) := by decide +kernel
theorem dS_quotedFrom_3 : decode mS_quotedFrom.2.1 3 = .ok (.istore_n 2, 1) := by decide +kernel
theorem dS_quotedFrom_4 : decode mS_quotedFrom.2.1 4 = .ok (.iload_n 2, 1) := by decide +kernel
theorem dS_quotedFrom_5 : decode mS_quotedFrom.2.1 5 = .ok (.aload_n 0, 1) := by decide +kernel
theorem dS_quotedFrom_6 : decode mS_quotedFrom.2.1 6 = .ok (.getfield 28, 3) := by decide +kernel
theorem dS_quotedFrom_9 : decode mS_quotedFrom.2.1 9 = .ok (.if_icmp .ge (29), 3) := by decide +kernel
theorem dS_quotedFrom_12 : decode mS_quotedFrom.2.1 12 = .ok (.aload_n 0, 1) := by decide +kernel
theorem dS_quotedFrom_13 : decode mS_quotedFrom.2.1 13 = .ok (.getfield 9, 3) := by decide +kernel
theorem dS_quotedFrom_16 : decode mS_quotedFrom.2.1 16 = .ok (.iload_n 2, 1) := by decide +kernel
theorem dS_quotedFrom_17 : decode mS_quotedFrom.2.1 17 = .ok (.caload, 1) := by decide +kernel
theorem dS_quotedFrom_18 : decode mS_quotedFrom.2.1 18 = .ok (.bipush (34), 2) := by decide +kernel
theorem dS_quotedFrom_20 : decode mS_quotedFrom.2.1 20 = .ok (.if_icmp .ne (12), 3) := by decide +kernel
theorem dS_quotedFrom_23 : decode mS_quotedFrom.2.1 23 = .ok (.iload_n 1, 1) := by decide +kernel
theorem dS_quotedFrom_24 : decode mS_quotedFrom.2.1 24 = .ok (.iload_n 2, 1) := by decide +kernel
theorem dS_quotedFrom_25 : decode mS_quotedFrom.2.1 25 = .ok (.iconst 1, 1) := by decide +kernel
theorem dS_quotedFrom_26 : decode mS_quotedFrom.2.1 26 = .ok (.iadd, 1) := by decide +kernel
theorem dS_quotedFrom_27 : decode mS_quotedFrom.2.1 27 = .ok (.iconst 2, 1) := by decide +kernel
theorem dS_quotedFrom_28 : decode mS_quotedFrom.2.1 28 = .ok (.invokestatic 60, 3) := by decide +kernel
theorem dS_quotedFrom_31 : decode mS_quotedFrom.2.1 31 = .ok (.ireturn, 1) := by decide +kernel
theorem dS_quotedFrom_32 : decode mS_quotedFrom.2.1 32 = .ok (.iinc 2 (1), 3) := by decide +kernel
theorem dS_quotedFrom_35 : decode mS_quotedFrom.2.1 35 = .ok (.goto (-31), 3) := by decide +kernel
theorem dS_quotedFrom_38 : decode mS_quotedFrom.2.1 38 = .ok (.iload_n 1, 1) := by decide +kernel
theorem dS_quotedFrom_39 : decode mS_quotedFrom.2.1 39 = .ok (.aload_n 0, 1) := by decide +kernel
theorem dS_quotedFrom_40 : decode mS_quotedFrom.2.1 40 = .ok (.getfield 28, 3) := by decide +kernel
theorem dS_quotedFrom_43 : decode mS_quotedFrom.2.1 43 = .ok (.iconst 4, 1) := by decide +kernel
theorem dS_quotedFrom_44 : decode mS_quotedFrom.2.1 44 = .ok (.invokestatic 60, 3) := by decide +kernel
theorem dS_quotedFrom_47 : decode mS_quotedFrom.2.1 47 = .ok (.ireturn, 1) := by decide +kernel
theorem dS_behindRun_0 : decode mS_behindRun.2.1 0 = .ok (.iload_n 1, 1) := by decide +kernel
theorem dS_behindRun_1 : decode mS_behindRun.2.1 1 = .ok (.istore_n 3, 1) := by decide +kernel
theorem dS_behindRun_2 : decode mS_behindRun.2.1 2 = .ok (.iload_n 3, 1) := by decide +kernel
theorem dS_behindRun_3 : decode mS_behindRun.2.1 3 = .ok (.aload_n 0, 1) := by decide +kernel
theorem dS_behindRun_4 : decode mS_behindRun.2.1 4 = .ok (.getfield 28, 3) := by decide +kernel
theorem dS_behindRun_7 : decode mS_behindRun.2.1 7 = .ok (.if_icmp .ge (40), 3) := by decide +kernel
theorem dS_behindRun_10 : decode mS_behindRun.2.1 10 = .ok (.iload_n 2, 1) := by decide +kernel
theorem dS_behindRun_11 : decode mS_behindRun.2.1 11 = .ok (.ifCond .eq (18), 3) := by decide +kernel
theorem dS_behindRun_14 : decode mS_behindRun.2.1 14 = .ok (.aload_n 0, 1) := by decide +kernel
theorem dS_behindRun_15 : decode mS_behindRun.2.1 15 = .ok (.getfield 9, 3) := by decide +kernel
theorem dS_behindRun_18 : decode mS_behindRun.2.1 18 = .ok (.iload_n 3, 1) := by decide +kernel
theorem dS_behindRun_19 : decode mS_behindRun.2.1 19 = .ok (.caload, 1) := by decide +kernel
theorem dS_behindRun_20 : decode mS_behindRun.2.1 20 = .ok (.invokestatic 52, 3) := by decide +kernel
theorem dS_behindRun_23 : decode mS_behindRun.2.1 23 = .ok (.ifCond .eq (24), 3) := by decide +kernel
theorem dS_behindRun_26 : decode mS_behindRun.2.1 26 = .ok (.goto (15), 3) := by decide +kernel
theorem dS_behindRun_29 : decode mS_behindRun.2.1 29 = .ok (.aload_n 0, 1) := by decide +kernel
theorem dS_behindRun_30 : decode mS_behindRun.2.1 30 = .ok (.getfield 9, 3) := by decide +kernel
theorem dS_behindRun_33 : decode mS_behindRun.2.1 33 = .ok (.iload_n 3, 1) := by decide +kernel
theorem dS_behindRun_34 : decode mS_behindRun.2.1 34 = .ok (.caload, 1) := by decide +kernel
theorem dS_behindRun_35 : decode mS_behindRun.2.1 35 = .ok (.invokestatic 64, 3) := by decide +kernel
theorem dS_behindRun_38 : decode mS_behindRun.2.1 38 = .ok (.ifCond .eq (9), 3) := by decide +kernel
theorem dS_behindRun_41 : decode mS_behindRun.2.1 41 = .ok (.iinc 3 (1), 3) := by decide +kernel
theorem dS_behindRun_44 : decode mS_behindRun.2.1 44 = .ok (.goto (-42), 3) := by decide +kernel
theorem dS_behindRun_47 : decode mS_behindRun.2.1 47 = .ok (.iload_n 3, 1) := by decide +kernel
theorem dS_behindRun_48 : decode mS_behindRun.2.1 48 = .ok (.ireturn, 1) := by decide +kernel
theorem dS_isLetter_0 : decode mS_isLetter.2.1 0 = .ok (.iload_n 0, 1) := by decide +kernel
theorem dS_isLetter_1 : decode mS_isLetter.2.1 1 = .ok (.bipush (97), 2) := by decide +kernel
theorem dS_isLetter_3 : decode mS_isLetter.2.1 3 = .ok (.if_icmp .lt (13), 3) := by decide +kernel
theorem dS_isLetter_6 : decode mS_isLetter.2.1 6 = .ok (.iload_n 0, 1) := by decide +kernel
theorem dS_isLetter_7 : decode mS_isLetter.2.1 7 = .ok (.bipush (122), 2) := by decide +kernel
theorem dS_isLetter_9 : decode mS_isLetter.2.1 9 = .ok (.if_icmp .gt (7), 3) := by decide +kernel
theorem dS_isLetter_12 : decode mS_isLetter.2.1 12 = .ok (.iconst 1, 1) := by decide +kernel
theorem dS_isLetter_13 : decode mS_isLetter.2.1 13 = .ok (.goto (4), 3) := by decide +kernel
theorem dS_isLetter_16 : decode mS_isLetter.2.1 16 = .ok (.iconst 0, 1) := by decide +kernel
theorem dS_isLetter_17 : decode mS_isLetter.2.1 17 = .ok (.ireturn, 1) := by decide +kernel
theorem dS_isDigit_0 : decode mS_isDigit.2.1 0 = .ok (.iload_n 0, 1) := by decide +kernel
theorem dS_isDigit_1 : decode mS_isDigit.2.1 1 = .ok (.bipush (48), 2) := by decide +kernel
theorem dS_isDigit_3 : decode mS_isDigit.2.1 3 = .ok (.if_icmp .lt (13), 3) := by decide +kernel
theorem dS_isDigit_6 : decode mS_isDigit.2.1 6 = .ok (.iload_n 0, 1) := by decide +kernel
theorem dS_isDigit_7 : decode mS_isDigit.2.1 7 = .ok (.bipush (57), 2) := by decide +kernel
theorem dS_isDigit_9 : decode mS_isDigit.2.1 9 = .ok (.if_icmp .gt (7), 3) := by decide +kernel
theorem dS_isDigit_12 : decode mS_isDigit.2.1 12 = .ok (.iconst 1, 1) := by decide +kernel
theorem dS_isDigit_13 : decode mS_isDigit.2.1 13 = .ok (.goto (4), 3) := by decide +kernel
theorem dS_isDigit_16 : decode mS_isDigit.2.1 16 = .ok (.iconst 0, 1) := by decide +kernel
theorem dS_isDigit_17 : decode mS_isDigit.2.1 17 = .ok (.ireturn, 1) := by decide +kernel
theorem dS_packed_0 : decode mS_packed.2.1 0 = .ok (.iload_n 0, 1) := by decide +kernel
theorem dS_packed_1 : decode mS_packed.2.1 1 = .ok (.sipush (2048), 3) := by decide +kernel
theorem dS_packed_4 : decode mS_packed.2.1 4 = .ok (.imul, 1) := by decide +kernel
theorem dS_packed_5 : decode mS_packed.2.1 5 = .ok (.iload_n 1, 1) := by decide +kernel
theorem dS_packed_6 : decode mS_packed.2.1 6 = .ok (.iload_n 0, 1) := by decide +kernel
theorem dS_packed_7 : decode mS_packed.2.1 7 = .ok (.isub, 1) := by decide +kernel
theorem dS_packed_8 : decode mS_packed.2.1 8 = .ok (.bipush (8), 2) := by decide +kernel
theorem dS_packed_10 : decode mS_packed.2.1 10 = .ok (.imul, 1) := by decide +kernel
theorem dS_packed_11 : decode mS_packed.2.1 11 = .ok (.iadd, 1) := by decide +kernel
theorem dS_packed_12 : decode mS_packed.2.1 12 = .ok (.iload_n 2, 1) := by decide +kernel
theorem dS_packed_13 : decode mS_packed.2.1 13 = .ok (.iadd, 1) := by decide +kernel
theorem dS_packed_14 : decode mS_packed.2.1 14 = .ok (.ireturn, 1) := by decide +kernel
theorem dS_placeOf_0 : decode mS_placeOf.2.1 0 = .ok (.aload_n 0, 1) := by decide +kernel
theorem dS_placeOf_1 : decode mS_placeOf.2.1 1 = .ok (.getfield 15, 3) := by decide +kernel
theorem dS_placeOf_4 : decode mS_placeOf.2.1 4 = .ok (.iload_n 1, 1) := by decide +kernel
theorem dS_placeOf_5 : decode mS_placeOf.2.1 5 = .ok (.iaload, 1) := by decide +kernel
theorem dS_placeOf_6 : decode mS_placeOf.2.1 6 = .ok (.sipush (2048), 3) := by decide +kernel
theorem dS_placeOf_9 : decode mS_placeOf.2.1 9 = .ok (.idiv, 1) := by decide +kernel
theorem dS_placeOf_10 : decode mS_placeOf.2.1 10 = .ok (.ireturn, 1) := by decide +kernel
theorem dS_lengthOf_0 : decode mS_lengthOf.2.1 0 = .ok (.aload_n 0, 1) := by decide +kernel
theorem dS_lengthOf_1 : decode mS_lengthOf.2.1 1 = .ok (.getfield 15, 3) := by decide +kernel
theorem dS_lengthOf_4 : decode mS_lengthOf.2.1 4 = .ok (.iload_n 1, 1) := by decide +kernel
theorem dS_lengthOf_5 : decode mS_lengthOf.2.1 5 = .ok (.iaload, 1) := by decide +kernel
theorem dS_lengthOf_6 : decode mS_lengthOf.2.1 6 = .ok (.sipush (2048), 3) := by decide +kernel
theorem dS_lengthOf_9 : decode mS_lengthOf.2.1 9 = .ok (.irem, 1) := by decide +kernel
theorem dS_lengthOf_10 : decode mS_lengthOf.2.1 10 = .ok (.bipush (8), 2) := by decide +kernel
theorem dS_lengthOf_12 : decode mS_lengthOf.2.1 12 = .ok (.idiv, 1) := by decide +kernel
theorem dS_lengthOf_13 : decode mS_lengthOf.2.1 13 = .ok (.ireturn, 1) := by decide +kernel
theorem dS_placeBehind_0 : decode mS_placeBehind.2.1 0 = .ok (.aload_n 0, 1) := by decide +kernel
theorem dS_placeBehind_1 : decode mS_placeBehind.2.1 1 = .ok (.iload_n 1, 1) := by decide +kernel
theorem dS_placeBehind_2 : decode mS_placeBehind.2.1 2 = .ok (.invokevirtual 74, 3) := by decide +kernel
theorem dS_placeBehind_5 : decode mS_placeBehind.2.1 5 = .ok (.aload_n 0, 1) := by decide +kernel
theorem dS_placeBehind_6 : decode mS_placeBehind.2.1 6 = .ok (.iload_n 1, 1) := by decide +kernel
theorem dS_placeBehind_7 : decode mS_placeBehind.2.1 7 = .ok (.invokevirtual 77, 3) := by decide +kernel
theorem dS_placeBehind_10 : decode mS_placeBehind.2.1 10 = .ok (.iadd, 1) := by decide +kernel
theorem dS_placeBehind_11 : decode mS_placeBehind.2.1 11 = .ok (.ireturn, 1) := by decide +kernel
theorem dS_movedToken_0 : decode mS_movedToken.2.1 0 = .ok (.aload_n 0, 1) := by decide +kernel
theorem dS_movedToken_1 : decode mS_movedToken.2.1 1 = .ok (.iload_n 1, 1) := by decide +kernel
theorem dS_movedToken_2 : decode mS_movedToken.2.1 2 = .ok (.invokevirtual 46, 3) := by decide +kernel
theorem dS_movedToken_5 : decode mS_movedToken.2.1 5 = .ok (.iload_n 2, 1) := by decide +kernel
theorem dS_movedToken_6 : decode mS_movedToken.2.1 6 = .ok (.if_icmp .gt (10), 3) := by decide +kernel
theorem dS_movedToken_9 : decode mS_movedToken.2.1 9 = .ok (.aload_n 0, 1) := by decide +kernel
theorem dS_movedToken_10 : decode mS_movedToken.2.1 10 = .ok (.getfield 15, 3) := by decide +kernel
theorem dS_movedToken_13 : decode mS_movedToken.2.1 13 = .ok (.iload_n 1, 1) := by decide +kernel
theorem dS_movedToken_14 : decode mS_movedToken.2.1 14 = .ok (.iaload, 1) := by decide +kernel
theorem dS_movedToken_15 : decode mS_movedToken.2.1 15 = .ok (.ireturn, 1) := by decide +kernel
theorem dS_movedToken_16 : decode mS_movedToken.2.1 16 = .ok (.aload_n 0, 1) := by decide +kernel
theorem dS_movedToken_17 : decode mS_movedToken.2.1 17 = .ok (.iload_n 1, 1) := by decide +kernel
theorem dS_movedToken_18 : decode mS_movedToken.2.1 18 = .ok (.invokevirtual 74, 3) := by decide +kernel
theorem dS_movedToken_21 : decode mS_movedToken.2.1 21 = .ok (.iload_n 2, 1) := by decide +kernel
theorem dS_movedToken_22 : decode mS_movedToken.2.1 22 = .ok (.iload_n 3, 1) := by decide +kernel
theorem dS_movedToken_23 : decode mS_movedToken.2.1 23 = .ok (.iadd, 1) := by decide +kernel
theorem dS_movedToken_24 : decode mS_movedToken.2.1 24 = .ok (.if_icmp .lt (19), 3) := by decide +kernel
theorem dS_movedToken_27 : decode mS_movedToken.2.1 27 = .ok (.aload_n 0, 1) := by decide +kernel
theorem dS_movedToken_28 : decode mS_movedToken.2.1 28 = .ok (.getfield 15, 3) := by decide +kernel
theorem dS_movedToken_31 : decode mS_movedToken.2.1 31 = .ok (.iload_n 1, 1) := by decide +kernel
theorem dS_movedToken_32 : decode mS_movedToken.2.1 32 = .ok (.iaload, 1) := by decide +kernel
theorem dS_movedToken_33 : decode mS_movedToken.2.1 33 = .ok (.iload 4, 2) := by decide +kernel
theorem dS_movedToken_35 : decode mS_movedToken.2.1 35 = .ok (.iload_n 3, 1) := by decide +kernel
theorem dS_movedToken_36 : decode mS_movedToken.2.1 36 = .ok (.isub, 1) := by decide +kernel
theorem dS_movedToken_37 : decode mS_movedToken.2.1 37 = .ok (.sipush (2048), 3) := by decide +kernel
theorem dS_movedToken_40 : decode mS_movedToken.2.1 40 = .ok (.imul, 1) := by decide +kernel
theorem dS_movedToken_41 : decode mS_movedToken.2.1 41 = .ok (.iadd, 1) := by decide +kernel
theorem dS_movedToken_42 : decode mS_movedToken.2.1 42 = .ok (.ireturn, 1) := by decide +kernel
theorem dS_movedToken_43 : decode mS_movedToken.2.1 43 = .ok (.iconst (-1), 1) := by decide +kernel
theorem dS_movedToken_44 : decode mS_movedToken.2.1 44 = .ok (.ireturn, 1) := by decide +kernel
theorem dS_areSame_0 : decode mS_areSame.2.1 0 = .ok (.aload_n 0, 1) := by decide +kernel
theorem dS_areSame_1 : decode mS_areSame.2.1 1 = .ok (.getfield 15, 3) := by decide +kernel
theorem dS_areSame_4 : decode mS_areSame.2.1 4 = .ok (.iload_n 1, 1) := by decide +kernel
theorem dS_areSame_5 : decode mS_areSame.2.1 5 = .ok (.iaload, 1) := by decide +kernel
theorem dS_areSame_6 : decode mS_areSame.2.1 6 = .ok (.sipush (2048), 3) := by decide +kernel
theorem dS_areSame_9 : decode mS_areSame.2.1 9 = .ok (.irem, 1) := by decide +kernel
theorem dS_areSame_10 : decode mS_areSame.2.1 10 = .ok (.istore_n 3, 1) := by decide +kernel
theorem dS_areSame_11 : decode mS_areSame.2.1 11 = .ok (.iload_n 3, 1) := by decide +kernel
theorem dS_areSame_12 : decode mS_areSame.2.1 12 = .ok (.aload_n 0, 1) := by decide +kernel
theorem dS_areSame_13 : decode mS_areSame.2.1 13 = .ok (.getfield 15, 3) := by decide +kernel
theorem dS_areSame_16 : decode mS_areSame.2.1 16 = .ok (.iload_n 2, 1) := by decide +kernel
theorem dS_areSame_17 : decode mS_areSame.2.1 17 = .ok (.iaload, 1) := by decide +kernel
theorem dS_areSame_18 : decode mS_areSame.2.1 18 = .ok (.sipush (2048), 3) := by decide +kernel
theorem dS_areSame_21 : decode mS_areSame.2.1 21 = .ok (.irem, 1) := by decide +kernel
theorem dS_areSame_22 : decode mS_areSame.2.1 22 = .ok (.if_icmp .eq (5), 3) := by decide +kernel
theorem dS_areSame_25 : decode mS_areSame.2.1 25 = .ok (.iconst 0, 1) := by decide +kernel
theorem dS_areSame_26 : decode mS_areSame.2.1 26 = .ok (.ireturn, 1) := by decide +kernel
theorem dS_areSame_27 : decode mS_areSame.2.1 27 = .ok (.aload_n 0, 1) := by decide +kernel
theorem dS_areSame_28 : decode mS_areSame.2.1 28 = .ok (.getfield 15, 3) := by decide +kernel
theorem dS_areSame_31 : decode mS_areSame.2.1 31 = .ok (.iload_n 1, 1) := by decide +kernel
theorem dS_areSame_32 : decode mS_areSame.2.1 32 = .ok (.iaload, 1) := by decide +kernel
theorem dS_areSame_33 : decode mS_areSame.2.1 33 = .ok (.sipush (2048), 3) := by decide +kernel
theorem dS_areSame_36 : decode mS_areSame.2.1 36 = .ok (.idiv, 1) := by decide +kernel
theorem dS_areSame_37 : decode mS_areSame.2.1 37 = .ok (.istore 4, 2) := by decide +kernel
theorem dS_areSame_39 : decode mS_areSame.2.1 39 = .ok (.aload_n 0, 1) := by decide +kernel
theorem dS_areSame_40 : decode mS_areSame.2.1 40 = .ok (.getfield 15, 3) := by decide +kernel
theorem dS_areSame_43 : decode mS_areSame.2.1 43 = .ok (.iload_n 2, 1) := by decide +kernel
theorem dS_areSame_44 : decode mS_areSame.2.1 44 = .ok (.iaload, 1) := by decide +kernel
theorem dS_areSame_45 : decode mS_areSame.2.1 45 = .ok (.sipush (2048), 3) := by decide +kernel
theorem dS_areSame_48 : decode mS_areSame.2.1 48 = .ok (.idiv, 1) := by decide +kernel
theorem dS_areSame_49 : decode mS_areSame.2.1 49 = .ok (.istore 5, 2) := by decide +kernel
theorem dS_areSame_51 : decode mS_areSame.2.1 51 = .ok (.iconst 0, 1) := by decide +kernel
theorem dS_areSame_52 : decode mS_areSame.2.1 52 = .ok (.istore 6, 2) := by decide +kernel
theorem dS_areSame_54 : decode mS_areSame.2.1 54 = .ok (.iload 6, 2) := by decide +kernel
theorem dS_areSame_56 : decode mS_areSame.2.1 56 = .ok (.iload_n 3, 1) := by decide +kernel
theorem dS_areSame_57 : decode mS_areSame.2.1 57 = .ok (.bipush (8), 2) := by decide +kernel
theorem dS_areSame_59 : decode mS_areSame.2.1 59 = .ok (.idiv, 1) := by decide +kernel
theorem dS_areSame_60 : decode mS_areSame.2.1 60 = .ok (.if_icmp .ge (34), 3) := by decide +kernel
theorem dS_areSame_63 : decode mS_areSame.2.1 63 = .ok (.aload_n 0, 1) := by decide +kernel
theorem dS_areSame_64 : decode mS_areSame.2.1 64 = .ok (.getfield 9, 3) := by decide +kernel
theorem dS_areSame_67 : decode mS_areSame.2.1 67 = .ok (.iload 4, 2) := by decide +kernel
theorem dS_areSame_69 : decode mS_areSame.2.1 69 = .ok (.iload 6, 2) := by decide +kernel
theorem dS_areSame_71 : decode mS_areSame.2.1 71 = .ok (.iadd, 1) := by decide +kernel
theorem dS_areSame_72 : decode mS_areSame.2.1 72 = .ok (.caload, 1) := by decide +kernel
theorem dS_areSame_73 : decode mS_areSame.2.1 73 = .ok (.aload_n 0, 1) := by decide +kernel
theorem dS_areSame_74 : decode mS_areSame.2.1 74 = .ok (.getfield 9, 3) := by decide +kernel
theorem dS_areSame_77 : decode mS_areSame.2.1 77 = .ok (.iload 5, 2) := by decide +kernel
theorem dS_areSame_79 : decode mS_areSame.2.1 79 = .ok (.iload 6, 2) := by decide +kernel
theorem dS_areSame_81 : decode mS_areSame.2.1 81 = .ok (.iadd, 1) := by decide +kernel
theorem dS_areSame_82 : decode mS_areSame.2.1 82 = .ok (.caload, 1) := by decide +kernel
theorem dS_areSame_83 : decode mS_areSame.2.1 83 = .ok (.if_icmp .eq (5), 3) := by decide +kernel
theorem dS_areSame_86 : decode mS_areSame.2.1 86 = .ok (.iconst 0, 1) := by decide +kernel
theorem dS_areSame_87 : decode mS_areSame.2.1 87 = .ok (.ireturn, 1) := by decide +kernel
theorem dS_areSame_88 : decode mS_areSame.2.1 88 = .ok (.iinc 6 (1), 3) := by decide +kernel
theorem dS_areSame_91 : decode mS_areSame.2.1 91 = .ok (.goto (-37), 3) := by decide +kernel
theorem dS_areSame_94 : decode mS_areSame.2.1 94 = .ok (.iconst 1, 1) := by decide +kernel
theorem dS_areSame_95 : decode mS_areSame.2.1 95 = .ok (.ireturn, 1) := by decide +kernel
theorem dS_digitsValue_0 : decode mS_digitsValue.2.1 0 = .ok (.iconst 0, 1) := by decide +kernel
theorem dS_digitsValue_1 : decode mS_digitsValue.2.1 1 = .ok (.istore_n 2, 1) := by decide +kernel
theorem dS_digitsValue_2 : decode mS_digitsValue.2.1 2 = .ok (.aload_n 0, 1) := by decide +kernel
theorem dS_digitsValue_3 : decode mS_digitsValue.2.1 3 = .ok (.iload_n 1, 1) := by decide +kernel
theorem dS_digitsValue_4 : decode mS_digitsValue.2.1 4 = .ok (.invokevirtual 74, 3) := by decide +kernel
theorem dS_digitsValue_7 : decode mS_digitsValue.2.1 7 = .ok (.istore_n 3, 1) := by decide +kernel
theorem dS_digitsValue_8 : decode mS_digitsValue.2.1 8 = .ok (.aload_n 0, 1) := by decide +kernel
theorem dS_digitsValue_9 : decode mS_digitsValue.2.1 9 = .ok (.iload_n 1, 1) := by decide +kernel
theorem dS_digitsValue_10 : decode mS_digitsValue.2.1 10 = .ok (.invokevirtual 77, 3) := by decide +kernel
theorem dS_digitsValue_13 : decode mS_digitsValue.2.1 13 = .ok (.istore 4, 2) := by decide +kernel
theorem dS_digitsValue_15 : decode mS_digitsValue.2.1 15 = .ok (.iconst 0, 1) := by decide +kernel
theorem dS_digitsValue_16 : decode mS_digitsValue.2.1 16 = .ok (.istore 5, 2) := by decide +kernel
theorem dS_digitsValue_18 : decode mS_digitsValue.2.1 18 = .ok (.iload 5, 2) := by decide +kernel
theorem dS_digitsValue_20 : decode mS_digitsValue.2.1 20 = .ok (.iload 4, 2) := by decide +kernel
theorem dS_digitsValue_22 : decode mS_digitsValue.2.1 22 = .ok (.if_icmp .ge (27), 3) := by decide +kernel
theorem dS_digitsValue_25 : decode mS_digitsValue.2.1 25 = .ok (.bipush (10), 2) := by decide +kernel
theorem dS_digitsValue_27 : decode mS_digitsValue.2.1 27 = .ok (.iload_n 2, 1) := by decide +kernel
theorem dS_digitsValue_28 : decode mS_digitsValue.2.1 28 = .ok (.imul, 1) := by decide +kernel
theorem dS_digitsValue_29 : decode mS_digitsValue.2.1 29 = .ok (.aload_n 0, 1) := by decide +kernel
theorem dS_digitsValue_30 : decode mS_digitsValue.2.1 30 = .ok (.getfield 9, 3) := by decide +kernel
theorem dS_digitsValue_33 : decode mS_digitsValue.2.1 33 = .ok (.iload_n 3, 1) := by decide +kernel
theorem dS_digitsValue_34 : decode mS_digitsValue.2.1 34 = .ok (.iload 5, 2) := by decide +kernel
theorem dS_digitsValue_36 : decode mS_digitsValue.2.1 36 = .ok (.iadd, 1) := by decide +kernel
theorem dS_digitsValue_37 : decode mS_digitsValue.2.1 37 = .ok (.caload, 1) := by decide +kernel
theorem dS_digitsValue_38 : decode mS_digitsValue.2.1 38 = .ok (.bipush (48), 2) := by decide +kernel
theorem dS_digitsValue_40 : decode mS_digitsValue.2.1 40 = .ok (.isub, 1) := by decide +kernel
theorem dS_digitsValue_41 : decode mS_digitsValue.2.1 41 = .ok (.iadd, 1) := by decide +kernel
theorem dS_digitsValue_42 : decode mS_digitsValue.2.1 42 = .ok (.istore_n 2, 1) := by decide +kernel
theorem dS_digitsValue_43 : decode mS_digitsValue.2.1 43 = .ok (.iinc 5 (1), 3) := by decide +kernel
theorem dS_digitsValue_46 : decode mS_digitsValue.2.1 46 = .ok (.goto (-28), 3) := by decide +kernel
theorem dS_digitsValue_49 : decode mS_digitsValue.2.1 49 = .ok (.iload_n 2, 1) := by decide +kernel
theorem dS_digitsValue_50 : decode mS_digitsValue.2.1 50 = .ok (.ireturn, 1) := by decide +kernel
