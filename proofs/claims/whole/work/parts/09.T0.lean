theorem dT_init_0 : decode mT_init.2.1 0 = .ok (.aload_n 0, 1) := by decide +kernel
theorem dT_init_1 : decode mT_init.2.1 1 = .ok (.invokespecial 3, 3) := by decide +kernel
theorem dT_init_4 : decode mT_init.2.1 4 = .ok (.aload_n 0, 1) := by decide +kernel
theorem dT_init_5 : decode mT_init.2.1 5 = .ok (.sipush (160), 3) := by decide +kernel
theorem dT_init_8 : decode mT_init.2.1 8 = .ok (.newarray .int, 2) := by decide +kernel
theorem dT_init_10 : decode mT_init.2.1 10 = .ok (.putfield 9, 3) := by decide +kernel
theorem dT_init_13 : decode mT_init.2.1 13 = .ok (.aload_n 0, 1) := by decide +kernel
theorem dT_init_14 : decode mT_init.2.1 14 = .ok (.sipush (160), 3) := by decide +kernel
theorem dT_init_17 : decode mT_init.2.1 17 = .ok (.newarray .int, 2) := by decide +kernel
theorem dT_init_19 : decode mT_init.2.1 19 = .ok (.putfield 15, 3) := by decide +kernel
theorem dT_init_22 : decode mT_init.2.1 22 = .ok (.aload_n 0, 1) := by decide +kernel
theorem dT_init_23 : decode mT_init.2.1 23 = .ok (.sipush (160), 3) := by decide +kernel
theorem dT_init_26 : decode mT_init.2.1 26 = .ok (.newarray .int, 2) := by decide +kernel
theorem dT_init_28 : decode mT_init.2.1 28 = .ok (.putfield 18, 3) := by decide +kernel
theorem dT_init_31 : decode mT_init.2.1 31 = .ok (.aload_n 0, 1) := by decide +kernel
theorem dT_init_32 : decode mT_init.2.1 32 = .ok (.sipush (160), 3) := by decide +kernel
theorem dT_init_35 : decode mT_init.2.1 35 = .ok (.newarray .int, 2) := by decide +kernel
theorem dT_init_37 : decode mT_init.2.1 37 = .ok (.putfield 21, 3) := by decide +kernel
theorem dT_init_40 : decode mT_init.2.1 40 = .ok (.aload_n 0, 1) := by decide +kernel
theorem dT_init_41 : decode mT_init.2.1 41 = .ok (.sipush (160), 3) := by decide +kernel
theorem dT_init_44 : decode mT_init.2.1 44 = .ok (.newarray .int, 2) := by decide +kernel
theorem dT_init_46 : decode mT_init.2.1 46 = .ok (.putfield 24, 3) := by decide +kernel
theorem dT_init_49 : decode mT_init.2.1 49 = .ok (.return_, 1) := by decide +kernel
theorem dT_has_0 : decode mT_has.2.1 0 = .ok (.iload_n 1, 1) := by decide +kernel
theorem dT_has_1 : decode mT_has.2.1 1 = .ok (.ifCond .lt (15), 3) := by decide +kernel
theorem dT_has_4 : decode mT_has.2.1 4 = .ok (.iload_n 1, 1) := by decide +kernel
theorem dT_has_5 : decode mT_has.2.1 5 = .ok (.aload_n 0, 1) := by decide +kernel
theorem dT_has_6 : decode mT_has.2.1 6 = .ok (.getfield 27, 3) := by decide +kernel
theorem dT_has_9 : decode mT_has.2.1 9 = .ok (.if_icmp .ge (7), 3) := by decide +kernel
theorem dT_has_12 : decode mT_has.2.1 12 = .ok (.iconst 1, 1) := by decide +kernel
theorem dT_has_13 : decode mT_has.2.1 13 = .ok (.goto (4), 3) := by decide +kernel
theorem dT_has_16 : decode mT_has.2.1 16 = .ok (.iconst 0, 1) := by decide +kernel
theorem dT_has_17 : decode mT_has.2.1 17 = .ok (.ireturn, 1) := by decide +kernel
theorem dT_itemOfTokens_0 : decode mT_itemOfTokens.2.1 0 = .ok (.iconst 0, 1) := by decide +kernel
theorem dT_itemOfTokens_1 : decode mT_itemOfTokens.2.1 1 = .ok (.istore_n 3, 1) := by decide +kernel
theorem dT_itemOfTokens_2 : decode mT_itemOfTokens.2.1 2 = .ok (.iload_n 3, 1) := by decide +kernel
theorem dT_itemOfTokens_3 : decode mT_itemOfTokens.2.1 3 = .ok (.aload_n 0, 1) := by decide +kernel
theorem dT_itemOfTokens_4 : decode mT_itemOfTokens.2.1 4 = .ok (.getfield 27, 3) := by decide +kernel
theorem dT_itemOfTokens_7 : decode mT_itemOfTokens.2.1 7 = .ok (.if_icmp .ge (31), 3) := by decide +kernel
theorem dT_itemOfTokens_10 : decode mT_itemOfTokens.2.1 10 = .ok (.aload_n 0, 1) := by decide +kernel
theorem dT_itemOfTokens_11 : decode mT_itemOfTokens.2.1 11 = .ok (.getfield 9, 3) := by decide +kernel
theorem dT_itemOfTokens_14 : decode mT_itemOfTokens.2.1 14 = .ok (.iload_n 3, 1) := by decide +kernel
theorem dT_itemOfTokens_15 : decode mT_itemOfTokens.2.1 15 = .ok (.iaload, 1) := by decide +kernel
theorem dT_itemOfTokens_16 : decode mT_itemOfTokens.2.1 16 = .ok (.iload_n 1, 1) := by decide +kernel
theorem dT_itemOfTokens_17 : decode mT_itemOfTokens.2.1 17 = .ok (.if_icmp .ne (15), 3) := by decide +kernel
theorem dT_itemOfTokens_20 : decode mT_itemOfTokens.2.1 20 = .ok (.aload_n 0, 1) := by decide +kernel
theorem dT_itemOfTokens_21 : decode mT_itemOfTokens.2.1 21 = .ok (.getfield 15, 3) := by decide +kernel
theorem dT_itemOfTokens_24 : decode mT_itemOfTokens.2.1 24 = .ok (.iload_n 3, 1) := by decide +kernel
theorem dT_itemOfTokens_25 : decode mT_itemOfTokens.2.1 25 = .ok (.iaload, 1) := by decide +kernel
theorem dT_itemOfTokens_26 : decode mT_itemOfTokens.2.1 26 = .ok (.iload_n 2, 1) := by decide +kernel
theorem dT_itemOfTokens_27 : decode mT_itemOfTokens.2.1 27 = .ok (.if_icmp .ne (5), 3) := by decide +kernel
theorem dT_itemOfTokens_30 : decode mT_itemOfTokens.2.1 30 = .ok (.iload_n 3, 1) := by decide +kernel
theorem dT_itemOfTokens_31 : decode mT_itemOfTokens.2.1 31 = .ok (.ireturn, 1) := by decide +kernel
theorem dT_itemOfTokens_32 : decode mT_itemOfTokens.2.1 32 = .ok (.iinc 3 (1), 3) := by decide +kernel
theorem dT_itemOfTokens_35 : decode mT_itemOfTokens.2.1 35 = .ok (.goto (-33), 3) := by decide +kernel
theorem dT_itemOfTokens_38 : decode mT_itemOfTokens.2.1 38 = .ok (.iconst (-1), 1) := by decide +kernel
theorem dT_itemOfTokens_39 : decode mT_itemOfTokens.2.1 39 = .ok (.ireturn, 1) := by decide +kernel
theorem dT_itemNumbered_0 : decode mT_itemNumbered.2.1 0 = .ok (.iconst 0, 1) := by decide +kernel
theorem dT_itemNumbered_1 : decode mT_itemNumbered.2.1 1 = .ok (.istore_n 2, 1) := by decide +kernel
theorem dT_itemNumbered_2 : decode mT_itemNumbered.2.1 2 = .ok (.iload_n 2, 1) := by decide +kernel
theorem dT_itemNumbered_3 : decode mT_itemNumbered.2.1 3 = .ok (.aload_n 0, 1) := by decide +kernel
theorem dT_itemNumbered_4 : decode mT_itemNumbered.2.1 4 = .ok (.getfield 27, 3) := by decide +kernel
theorem dT_itemNumbered_7 : decode mT_itemNumbered.2.1 7 = .ok (.if_icmp .ge (21), 3) := by decide +kernel
theorem dT_itemNumbered_10 : decode mT_itemNumbered.2.1 10 = .ok (.aload_n 0, 1) := by decide +kernel
theorem dT_itemNumbered_11 : decode mT_itemNumbered.2.1 11 = .ok (.getfield 24, 3) := by decide +kernel
theorem dT_itemNumbered_14 : decode mT_itemNumbered.2.1 14 = .ok (.iload_n 2, 1) := by decide +kernel
theorem dT_itemNumbered_15 : decode mT_itemNumbered.2.1 15 = .ok (.iaload, 1) := by decide +kernel
theorem dT_itemNumbered_16 : decode mT_itemNumbered.2.1 16 = .ok (.iload_n 1, 1) := by decide +kernel
theorem dT_itemNumbered_17 : decode mT_itemNumbered.2.1 17 = .ok (.if_icmp .ne (5), 3) := by decide +kernel
theorem dT_itemNumbered_20 : decode mT_itemNumbered.2.1 20 = .ok (.iload_n 2, 1) := by decide +kernel
theorem dT_itemNumbered_21 : decode mT_itemNumbered.2.1 21 = .ok (.ireturn, 1) := by decide +kernel
theorem dT_itemNumbered_22 : decode mT_itemNumbered.2.1 22 = .ok (.iinc 2 (1), 3) := by decide +kernel
theorem dT_itemNumbered_25 : decode mT_itemNumbered.2.1 25 = .ok (.goto (-23), 3) := by decide +kernel
theorem dT_itemNumbered_28 : decode mT_itemNumbered.2.1 28 = .ok (.iconst (-1), 1) := by decide +kernel
theorem dT_itemNumbered_29 : decode mT_itemNumbered.2.1 29 = .ok (.ireturn, 1) := by decide +kernel
