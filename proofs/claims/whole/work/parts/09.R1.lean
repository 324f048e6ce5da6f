theorem dR_readCall_78 : decode mR_readCall.2.1 78 = .ok (.invokevirtual 76, 3) := by decide +kernel
theorem dR_readCall_81 : decode mR_readCall.2.1 81 = .ok (.iadd, 1) := by decide +kernel
theorem dR_readCall_82 : decode mR_readCall.2.1 82 = .ok (.istore_n 3, 1) := by decide +kernel
theorem dR_readCall_83 : decode mR_readCall.2.1 83 = .ok (.iinc 4 (1), 3) := by decide +kernel
theorem dR_readCall_86 : decode mR_readCall.2.1 86 = .ok (.goto (-33), 3) := by decide +kernel
theorem dR_readCall_89 : decode mR_readCall.2.1 89 = .ok (.aload_n 0, 1) := by decide +kernel
theorem dR_readCall_90 : decode mR_readCall.2.1 90 = .ok (.bipush (41), 2) := by decide +kernel
theorem dR_readCall_92 : decode mR_readCall.2.1 92 = .ok (.invokevirtual 69, 3) := by decide +kernel
theorem dR_readCall_95 : decode mR_readCall.2.1 95 = .ok (.iload_n 3, 1) := by decide +kernel
theorem dR_readCall_96 : decode mR_readCall.2.1 96 = .ok (.ireturn, 1) := by decide +kernel
theorem dR_namedValue_0 : decode mR_namedValue.2.1 0 = .ok (.aload_n 0, 1) := by decide +kernel
theorem dR_namedValue_1 : decode mR_namedValue.2.1 1 = .ok (.getfield 21, 3) := by decide +kernel
theorem dR_namedValue_4 : decode mR_namedValue.2.1 4 = .ok (.getfield 33, 3) := by decide +kernel
theorem dR_namedValue_7 : decode mR_namedValue.2.1 7 = .ok (.iconst 2, 1) := by decide +kernel
theorem dR_namedValue_8 : decode mR_namedValue.2.1 8 = .ok (.isub, 1) := by decide +kernel
theorem dR_namedValue_9 : decode mR_namedValue.2.1 9 = .ok (.istore_n 2, 1) := by decide +kernel
theorem dR_namedValue_10 : decode mR_namedValue.2.1 10 = .ok (.iload_n 2, 1) := by decide +kernel
theorem dR_namedValue_11 : decode mR_namedValue.2.1 11 = .ok (.ifCond .lt (82), 3) := by decide +kernel
theorem dR_namedValue_14 : decode mR_namedValue.2.1 14 = .ok (.aload_n 0, 1) := by decide +kernel
theorem dR_namedValue_15 : decode mR_namedValue.2.1 15 = .ok (.getfield 21, 3) := by decide +kernel
theorem dR_namedValue_18 : decode mR_namedValue.2.1 18 = .ok (.getfield 56, 3) := by decide +kernel
theorem dR_namedValue_21 : decode mR_namedValue.2.1 21 = .ok (.iload_n 2, 1) := by decide +kernel
theorem dR_namedValue_22 : decode mR_namedValue.2.1 22 = .ok (.iaload, 1) := by decide +kernel
theorem dR_namedValue_23 : decode mR_namedValue.2.1 23 = .ok (.istore_n 3, 1) := by decide +kernel
theorem dR_namedValue_24 : decode mR_namedValue.2.1 24 = .ok (.iload_n 3, 1) := by decide +kernel
theorem dR_namedValue_25 : decode mR_namedValue.2.1 25 = .ok (.iconst 1, 1) := by decide +kernel
theorem dR_namedValue_26 : decode mR_namedValue.2.1 26 = .ok (.iadd, 1) := by decide +kernel
theorem dR_namedValue_27 : decode mR_namedValue.2.1 27 = .ok (.aload_n 0, 1) := by decide +kernel
theorem dR_namedValue_28 : decode mR_namedValue.2.1 28 = .ok (.getfield 12, 3) := by decide +kernel
theorem dR_namedValue_31 : decode mR_namedValue.2.1 31 = .ok (.getfield 36, 3) := by decide +kernel
theorem dR_namedValue_34 : decode mR_namedValue.2.1 34 = .ok (.if_icmp .ge (23), 3) := by decide +kernel
theorem dR_namedValue_37 : decode mR_namedValue.2.1 37 = .ok (.aload_n 0, 1) := by decide +kernel
theorem dR_namedValue_38 : decode mR_namedValue.2.1 38 = .ok (.getfield 12, 3) := by decide +kernel
theorem dR_namedValue_41 : decode mR_namedValue.2.1 41 = .ok (.getfield 48, 3) := by decide +kernel
theorem dR_namedValue_44 : decode mR_namedValue.2.1 44 = .ok (.iload_n 3, 1) := by decide +kernel
theorem dR_namedValue_45 : decode mR_namedValue.2.1 45 = .ok (.iconst 1, 1) := by decide +kernel
theorem dR_namedValue_46 : decode mR_namedValue.2.1 46 = .ok (.iadd, 1) := by decide +kernel
theorem dR_namedValue_47 : decode mR_namedValue.2.1 47 = .ok (.caload, 1) := by decide +kernel
theorem dR_namedValue_48 : decode mR_namedValue.2.1 48 = .ok (.bipush (61), 2) := by decide +kernel
theorem dR_namedValue_50 : decode mR_namedValue.2.1 50 = .ok (.if_icmp .ne (7), 3) := by decide +kernel
theorem dR_namedValue_53 : decode mR_namedValue.2.1 53 = .ok (.iconst 1, 1) := by decide +kernel
theorem dR_namedValue_54 : decode mR_namedValue.2.1 54 = .ok (.goto (4), 3) := by decide +kernel
theorem dR_namedValue_57 : decode mR_namedValue.2.1 57 = .ok (.iconst 0, 1) := by decide +kernel
theorem dR_namedValue_58 : decode mR_namedValue.2.1 58 = .ok (.istore 4, 2) := by decide +kernel
theorem dR_namedValue_60 : decode mR_namedValue.2.1 60 = .ok (.iload 4, 2) := by decide +kernel
theorem dR_namedValue_62 : decode mR_namedValue.2.1 62 = .ok (.ifCond .eq (25), 3) := by decide +kernel
theorem dR_namedValue_65 : decode mR_namedValue.2.1 65 = .ok (.aload_n 0, 1) := by decide +kernel
theorem dR_namedValue_66 : decode mR_namedValue.2.1 66 = .ok (.getfield 12, 3) := by decide +kernel
theorem dR_namedValue_69 : decode mR_namedValue.2.1 69 = .ok (.iload_n 3, 1) := by decide +kernel
theorem dR_namedValue_70 : decode mR_namedValue.2.1 70 = .ok (.iload_n 1, 1) := by decide +kernel
theorem dR_namedValue_71 : decode mR_namedValue.2.1 71 = .ok (.invokevirtual 102, 3) := by decide +kernel
theorem dR_namedValue_74 : decode mR_namedValue.2.1 74 = .ok (.ifCond .eq (13), 3) := by decide +kernel
theorem dR_namedValue_77 : decode mR_namedValue.2.1 77 = .ok (.aload_n 0, 1) := by decide +kernel
theorem dR_namedValue_78 : decode mR_namedValue.2.1 78 = .ok (.getfield 21, 3) := by decide +kernel
theorem dR_namedValue_81 : decode mR_namedValue.2.1 81 = .ok (.getfield 63, 3) := by decide +kernel
theorem dR_namedValue_84 : decode mR_namedValue.2.1 84 = .ok (.iload_n 2, 1) := by decide +kernel
theorem dR_namedValue_85 : decode mR_namedValue.2.1 85 = .ok (.iaload, 1) := by decide +kernel
theorem dR_namedValue_86 : decode mR_namedValue.2.1 86 = .ok (.ireturn, 1) := by decide +kernel
theorem dR_namedValue_87 : decode mR_namedValue.2.1 87 = .ok (.iinc 2 (-1), 3) := by decide +kernel
theorem dR_namedValue_90 : decode mR_namedValue.2.1 90 = .ok (.goto (-80), 3) := by decide +kernel
theorem dR_namedValue_93 : decode mR_namedValue.2.1 93 = .ok (.iconst 0, 1) := by decide +kernel
theorem dR_namedValue_94 : decode mR_namedValue.2.1 94 = .ok (.ireturn, 1) := by decide +kernel
