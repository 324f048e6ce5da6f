theorem dR_init_0 : decode mR_init.2.1 0 = .ok (.aload_n 0, 1) := by decide +kernel
theorem dR_init_1 : decode mR_init.2.1 1 = .ok (.invokespecial 3, 3) := by decide +kernel
theorem dR_init_4 : decode mR_init.2.1 4 = .ok (.aload_n 0, 1) := by decide +kernel
theorem dR_init_5 : decode mR_init.2.1 5 = .ok (.new 9, 3) := by decide +kernel
theorem dR_init_8 : decode mR_init.2.1 8 = .ok (.dup, 1) := by decide +kernel
theorem dR_init_9 : decode mR_init.2.1 9 = .ok (.invokespecial 11, 3) := by decide +kernel
theorem dR_init_12 : decode mR_init.2.1 12 = .ok (.putfield 12, 3) := by decide +kernel
theorem dR_init_15 : decode mR_init.2.1 15 = .ok (.aload_n 0, 1) := by decide +kernel
theorem dR_init_16 : decode mR_init.2.1 16 = .ok (.new 18, 3) := by decide +kernel
theorem dR_init_19 : decode mR_init.2.1 19 = .ok (.dup, 1) := by decide +kernel
theorem dR_init_20 : decode mR_init.2.1 20 = .ok (.invokespecial 20, 3) := by decide +kernel
theorem dR_init_23 : decode mR_init.2.1 23 = .ok (.putfield 21, 3) := by decide +kernel
theorem dR_init_26 : decode mR_init.2.1 26 = .ok (.return_, 1) := by decide +kernel
theorem dR_readTokens_0 : decode mR_readTokens.2.1 0 = .ok (.aload_n 0, 1) := by decide +kernel
theorem dR_readTokens_1 : decode mR_readTokens.2.1 1 = .ok (.iconst 0, 1) := by decide +kernel
theorem dR_readTokens_2 : decode mR_readTokens.2.1 2 = .ok (.putfield 25, 3) := by decide +kernel
theorem dR_readTokens_5 : decode mR_readTokens.2.1 5 = .ok (.aload_n 0, 1) := by decide +kernel
theorem dR_readTokens_6 : decode mR_readTokens.2.1 6 = .ok (.iconst 0, 1) := by decide +kernel
theorem dR_readTokens_7 : decode mR_readTokens.2.1 7 = .ok (.putfield 29, 3) := by decide +kernel
theorem dR_readTokens_10 : decode mR_readTokens.2.1 10 = .ok (.aload_n 0, 1) := by decide +kernel
theorem dR_readTokens_11 : decode mR_readTokens.2.1 11 = .ok (.getfield 21, 3) := by decide +kernel
theorem dR_readTokens_14 : decode mR_readTokens.2.1 14 = .ok (.iconst 0, 1) := by decide +kernel
theorem dR_readTokens_15 : decode mR_readTokens.2.1 15 = .ok (.putfield 33, 3) := by decide +kernel
theorem dR_readTokens_18 : decode mR_readTokens.2.1 18 = .ok (.iconst 0, 1) := by decide +kernel
theorem dR_readTokens_19 : decode mR_readTokens.2.1 19 = .ok (.istore_n 1, 1) := by decide +kernel
theorem dR_readTokens_20 : decode mR_readTokens.2.1 20 = .ok (.iload_n 1, 1) := by decide +kernel
theorem dR_readTokens_21 : decode mR_readTokens.2.1 21 = .ok (.sipush (160), 3) := by decide +kernel
theorem dR_readTokens_24 : decode mR_readTokens.2.1 24 = .ok (.if_icmp .ge (58), 3) := by decide +kernel
theorem dR_readTokens_27 : decode mR_readTokens.2.1 27 = .ok (.aload_n 0, 1) := by decide +kernel
theorem dR_readTokens_28 : decode mR_readTokens.2.1 28 = .ok (.getfield 25, 3) := by decide +kernel
theorem dR_readTokens_31 : decode mR_readTokens.2.1 31 = .ok (.aload_n 0, 1) := by decide +kernel
theorem dR_readTokens_32 : decode mR_readTokens.2.1 32 = .ok (.getfield 12, 3) := by decide +kernel
theorem dR_readTokens_35 : decode mR_readTokens.2.1 35 = .ok (.getfield 36, 3) := by decide +kernel
theorem dR_readTokens_38 : decode mR_readTokens.2.1 38 = .ok (.if_icmp .ge (44), 3) := by decide +kernel
theorem dR_readTokens_41 : decode mR_readTokens.2.1 41 = .ok (.aload_n 0, 1) := by decide +kernel
theorem dR_readTokens_42 : decode mR_readTokens.2.1 42 = .ok (.getfield 29, 3) := by decide +kernel
theorem dR_readTokens_45 : decode mR_readTokens.2.1 45 = .ok (.ifCond .ne (37), 3) := by decide +kernel
theorem dR_readTokens_48 : decode mR_readTokens.2.1 48 = .ok (.aload_n 0, 1) := by decide +kernel
theorem dR_readTokens_49 : decode mR_readTokens.2.1 49 = .ok (.getfield 21, 3) := by decide +kernel
theorem dR_readTokens_52 : decode mR_readTokens.2.1 52 = .ok (.getfield 33, 3) := by decide +kernel
theorem dR_readTokens_55 : decode mR_readTokens.2.1 55 = .ok (.istore_n 2, 1) := by decide +kernel
theorem dR_readTokens_56 : decode mR_readTokens.2.1 56 = .ok (.aload_n 0, 1) := by decide +kernel
theorem dR_readTokens_57 : decode mR_readTokens.2.1 57 = .ok (.iconst 0, 1) := by decide +kernel
theorem dR_readTokens_58 : decode mR_readTokens.2.1 58 = .ok (.invokevirtual 37, 3) := by decide +kernel
theorem dR_readTokens_61 : decode mR_readTokens.2.1 61 = .ok (.aload_n 0, 1) := by decide +kernel
theorem dR_readTokens_62 : decode mR_readTokens.2.1 62 = .ok (.getfield 29, 3) := by decide +kernel
theorem dR_readTokens_65 : decode mR_readTokens.2.1 65 = .ok (.ifCond .eq (11), 3) := by decide +kernel
theorem dR_readTokens_68 : decode mR_readTokens.2.1 68 = .ok (.aload_n 0, 1) := by decide +kernel
theorem dR_readTokens_69 : decode mR_readTokens.2.1 69 = .ok (.getfield 21, 3) := by decide +kernel
theorem dR_readTokens_72 : decode mR_readTokens.2.1 72 = .ok (.iload_n 2, 1) := by decide +kernel
theorem dR_readTokens_73 : decode mR_readTokens.2.1 73 = .ok (.putfield 33, 3) := by decide +kernel
theorem dR_readTokens_76 : decode mR_readTokens.2.1 76 = .ok (.iinc 1 (1), 3) := by decide +kernel
theorem dR_readTokens_79 : decode mR_readTokens.2.1 79 = .ok (.goto (-59), 3) := by decide +kernel
theorem dR_readTokens_82 : decode mR_readTokens.2.1 82 = .ok (.return_, 1) := by decide +kernel
theorem dR_faultPlace_0 : decode mR_faultPlace.2.1 0 = .ok (.aload_n 0, 1) := by decide +kernel
theorem dR_faultPlace_1 : decode mR_faultPlace.2.1 1 = .ok (.getfield 29, 3) := by decide +kernel
theorem dR_faultPlace_4 : decode mR_faultPlace.2.1 4 = .ok (.ifCond .ne (5), 3) := by decide +kernel
theorem dR_faultPlace_7 : decode mR_faultPlace.2.1 7 = .ok (.iconst (-1), 1) := by decide +kernel
theorem dR_faultPlace_8 : decode mR_faultPlace.2.1 8 = .ok (.ireturn, 1) := by decide +kernel
theorem dR_faultPlace_9 : decode mR_faultPlace.2.1 9 = .ok (.aload_n 0, 1) := by decide +kernel
theorem dR_faultPlace_10 : decode mR_faultPlace.2.1 10 = .ok (.getfield 25, 3) := by decide +kernel
theorem dR_faultPlace_13 : decode mR_faultPlace.2.1 13 = .ok (.aload_n 0, 1) := by decide +kernel
theorem dR_faultPlace_14 : decode mR_faultPlace.2.1 14 = .ok (.getfield 12, 3) := by decide +kernel
theorem dR_faultPlace_17 : decode mR_faultPlace.2.1 17 = .ok (.getfield 36, 3) := by decide +kernel
theorem dR_faultPlace_20 : decode mR_faultPlace.2.1 20 = .ok (.if_icmp .ge (17), 3) := by decide +kernel
theorem dR_faultPlace_23 : decode mR_faultPlace.2.1 23 = .ok (.aload_n 0, 1) := by decide +kernel
theorem dR_faultPlace_24 : decode mR_faultPlace.2.1 24 = .ok (.getfield 12, 3) := by decide +kernel
theorem dR_faultPlace_27 : decode mR_faultPlace.2.1 27 = .ok (.aload_n 0, 1) := by decide +kernel
theorem dR_faultPlace_28 : decode mR_faultPlace.2.1 28 = .ok (.getfield 25, 3) := by decide +kernel
theorem dR_faultPlace_31 : decode mR_faultPlace.2.1 31 = .ok (.invokevirtual 41, 3) := by decide +kernel
theorem dR_faultPlace_34 : decode mR_faultPlace.2.1 34 = .ok (.goto (10), 3) := by decide +kernel
theorem dR_faultPlace_37 : decode mR_faultPlace.2.1 37 = .ok (.aload_n 0, 1) := by decide +kernel
theorem dR_faultPlace_38 : decode mR_faultPlace.2.1 38 = .ok (.getfield 12, 3) := by decide +kernel
theorem dR_faultPlace_41 : decode mR_faultPlace.2.1 41 = .ok (.getfield 45, 3) := by decide +kernel
theorem dR_faultPlace_44 : decode mR_faultPlace.2.1 44 = .ok (.ireturn, 1) := by decide +kernel
theorem dR_sees_0 : decode mR_sees.2.1 0 = .ok (.aload_n 0, 1) := by decide +kernel
theorem dR_sees_1 : decode mR_sees.2.1 1 = .ok (.getfield 29, 3) := by decide +kernel
theorem dR_sees_4 : decode mR_sees.2.1 4 = .ok (.ifCond .ne (37), 3) := by decide +kernel
theorem dR_sees_7 : decode mR_sees.2.1 7 = .ok (.aload_n 0, 1) := by decide +kernel
theorem dR_sees_8 : decode mR_sees.2.1 8 = .ok (.getfield 25, 3) := by decide +kernel
theorem dR_sees_11 : decode mR_sees.2.1 11 = .ok (.aload_n 0, 1) := by decide +kernel
theorem dR_sees_12 : decode mR_sees.2.1 12 = .ok (.getfield 12, 3) := by decide +kernel
theorem dR_sees_15 : decode mR_sees.2.1 15 = .ok (.getfield 36, 3) := by decide +kernel
theorem dR_sees_18 : decode mR_sees.2.1 18 = .ok (.if_icmp .ge (23), 3) := by decide +kernel
theorem dR_sees_21 : decode mR_sees.2.1 21 = .ok (.aload_n 0, 1) := by decide +kernel
theorem dR_sees_22 : decode mR_sees.2.1 22 = .ok (.getfield 12, 3) := by decide +kernel
theorem dR_sees_25 : decode mR_sees.2.1 25 = .ok (.getfield 48, 3) := by decide +kernel
theorem dR_sees_28 : decode mR_sees.2.1 28 = .ok (.aload_n 0, 1) := by decide +kernel
theorem dR_sees_29 : decode mR_sees.2.1 29 = .ok (.getfield 25, 3) := by decide +kernel
theorem dR_sees_32 : decode mR_sees.2.1 32 = .ok (.caload, 1) := by decide +kernel
theorem dR_sees_33 : decode mR_sees.2.1 33 = .ok (.iload_n 1, 1) := by decide +kernel
theorem dR_sees_34 : decode mR_sees.2.1 34 = .ok (.if_icmp .ne (7), 3) := by decide +kernel
theorem dR_sees_37 : decode mR_sees.2.1 37 = .ok (.iconst 1, 1) := by decide +kernel
theorem dR_sees_38 : decode mR_sees.2.1 38 = .ok (.goto (4), 3) := by decide +kernel
theorem dR_sees_41 : decode mR_sees.2.1 41 = .ok (.iconst 0, 1) := by decide +kernel
theorem dR_sees_42 : decode mR_sees.2.1 42 = .ok (.ireturn, 1) := by decide +kernel
theorem dR_takes_0 : decode mR_takes.2.1 0 = .ok (.aload_n 0, 1) := by decide +kernel
theorem dR_takes_1 : decode mR_takes.2.1 1 = .ok (.iload_n 1, 1) := by decide +kernel
theorem dR_takes_2 : decode mR_takes.2.1 2 = .ok (.invokevirtual 52, 3) := by decide +kernel
theorem dR_takes_5 : decode mR_takes.2.1 5 = .ok (.istore_n 2, 1) := by decide +kernel
theorem dR_takes_6 : decode mR_takes.2.1 6 = .ok (.iload_n 2, 1) := by decide +kernel
theorem dR_takes_7 : decode mR_takes.2.1 7 = .ok (.ifCond .eq (13), 3) := by decide +kernel
theorem dR_takes_10 : decode mR_takes.2.1 10 = .ok (.aload_n 0, 1) := by decide +kernel
theorem dR_takes_11 : decode mR_takes.2.1 11 = .ok (.dup, 1) := by decide +kernel
theorem dR_takes_12 : decode mR_takes.2.1 12 = .ok (.getfield 25, 3) := by decide +kernel
theorem dR_takes_15 : decode mR_takes.2.1 15 = .ok (.iconst 1, 1) := by decide +kernel
theorem dR_takes_16 : decode mR_takes.2.1 16 = .ok (.iadd, 1) := by decide +kernel
theorem dR_takes_17 : decode mR_takes.2.1 17 = .ok (.putfield 25, 3) := by decide +kernel
theorem dR_takes_20 : decode mR_takes.2.1 20 = .ok (.iload_n 2, 1) := by decide +kernel
theorem dR_takes_21 : decode mR_takes.2.1 21 = .ok (.ireturn, 1) := by decide +kernel
theorem dR_needs_0 : decode mR_needs.2.1 0 = .ok (.aload_n 0, 1) := by decide +kernel
theorem dR_needs_1 : decode mR_needs.2.1 1 = .ok (.iload_n 1, 1) := by decide +kernel
theorem dR_needs_2 : decode mR_needs.2.1 2 = .ok (.invokevirtual 52, 3) := by decide +kernel
theorem dR_needs_5 : decode mR_needs.2.1 5 = .ok (.ifCond .eq (16), 3) := by decide +kernel
theorem dR_needs_8 : decode mR_needs.2.1 8 = .ok (.aload_n 0, 1) := by decide +kernel
theorem dR_needs_9 : decode mR_needs.2.1 9 = .ok (.dup, 1) := by decide +kernel
theorem dR_needs_10 : decode mR_needs.2.1 10 = .ok (.getfield 25, 3) := by decide +kernel
theorem dR_needs_13 : decode mR_needs.2.1 13 = .ok (.iconst 1, 1) := by decide +kernel
theorem dR_needs_14 : decode mR_needs.2.1 14 = .ok (.iadd, 1) := by decide +kernel
theorem dR_needs_15 : decode mR_needs.2.1 15 = .ok (.putfield 25, 3) := by decide +kernel
theorem dR_needs_18 : decode mR_needs.2.1 18 = .ok (.goto (8), 3) := by decide +kernel
theorem dR_needs_21 : decode mR_needs.2.1 21 = .ok (.aload_n 0, 1) := by decide +kernel
theorem dR_needs_22 : decode mR_needs.2.1 22 = .ok (.iconst 1, 1) := by decide +kernel
theorem dR_needs_23 : decode mR_needs.2.1 23 = .ok (.putfield 29, 3) := by decide +kernel
theorem dR_needs_26 : decode mR_needs.2.1 26 = .ok (.return_, 1) := by decide +kernel
theorem dR_opens_0 : decode mR_opens.2.1 0 = .ok (.aload_n 0, 1) := by decide +kernel
theorem dR_opens_1 : decode mR_opens.2.1 1 = .ok (.iload_n 1, 1) := by decide +kernel
theorem dR_opens_2 : decode mR_opens.2.1 2 = .ok (.invokevirtual 52, 3) := by decide +kernel
theorem dR_opens_5 : decode mR_opens.2.1 5 = .ok (.istore_n 3, 1) := by decide +kernel
theorem dR_opens_6 : decode mR_opens.2.1 6 = .ok (.iload_n 3, 1) := by decide +kernel
theorem dR_opens_7 : decode mR_opens.2.1 7 = .ok (.ifCond .eq (17), 3) := by decide +kernel
theorem dR_opens_10 : decode mR_opens.2.1 10 = .ok (.iload_n 2, 1) := by decide +kernel
theorem dR_opens_11 : decode mR_opens.2.1 11 = .ok (.bipush (12), 2) := by decide +kernel
theorem dR_opens_13 : decode mR_opens.2.1 13 = .ok (.if_icmp .lt (11), 3) := by decide +kernel
theorem dR_opens_16 : decode mR_opens.2.1 16 = .ok (.aload_n 0, 1) := by decide +kernel
theorem dR_opens_17 : decode mR_opens.2.1 17 = .ok (.iconst 1, 1) := by decide +kernel
theorem dR_opens_18 : decode mR_opens.2.1 18 = .ok (.putfield 29, 3) := by decide +kernel
theorem dR_opens_21 : decode mR_opens.2.1 21 = .ok (.goto (17), 3) := by decide +kernel
theorem dR_opens_24 : decode mR_opens.2.1 24 = .ok (.iload_n 3, 1) := by decide +kernel
theorem dR_opens_25 : decode mR_opens.2.1 25 = .ok (.ifCond .eq (13), 3) := by decide +kernel
theorem dR_opens_28 : decode mR_opens.2.1 28 = .ok (.aload_n 0, 1) := by decide +kernel
theorem dR_opens_29 : decode mR_opens.2.1 29 = .ok (.dup, 1) := by decide +kernel
theorem dR_opens_30 : decode mR_opens.2.1 30 = .ok (.getfield 25, 3) := by decide +kernel
theorem dR_opens_33 : decode mR_opens.2.1 33 = .ok (.iconst 1, 1) := by decide +kernel
theorem dR_opens_34 : decode mR_opens.2.1 34 = .ok (.iadd, 1) := by decide +kernel
theorem dR_opens_35 : decode mR_opens.2.1 35 = .ok (.putfield 25, 3) := by decide +kernel
theorem dR_opens_38 : decode mR_opens.2.1 38 = .ok (.iload_n 3, 1) := by decide +kernel
theorem dR_opens_39 : decode mR_opens.2.1 39 = .ok (.ifCond .eq (14), 3) := by decide +kernel
theorem dR_opens_42 : decode mR_opens.2.1 42 = .ok (.aload_n 0, 1) := by decide +kernel
theorem dR_opens_43 : decode mR_opens.2.1 43 = .ok (.getfield 29, 3) := by decide +kernel
theorem dR_opens_46 : decode mR_opens.2.1 46 = .ok (.ifCond .ne (7), 3) := by decide +kernel
theorem dR_opens_49 : decode mR_opens.2.1 49 = .ok (.iconst 1, 1) := by decide +kernel
theorem dR_opens_50 : decode mR_opens.2.1 50 = .ok (.goto (4), 3) := by decide +kernel
theorem dR_opens_53 : decode mR_opens.2.1 53 = .ok (.iconst 0, 1) := by decide +kernel
theorem dR_opens_54 : decode mR_opens.2.1 54 = .ok (.ireturn, 1) := by decide +kernel
theorem dR_readItem_0 : decode mR_readItem.2.1 0 = .ok (.aload_n 0, 1) := by decide +kernel
theorem dR_readItem_1 : decode mR_readItem.2.1 1 = .ok (.getfield 25, 3) := by decide +kernel
theorem dR_readItem_4 : decode mR_readItem.2.1 4 = .ok (.aload_n 0, 1) := by decide +kernel
theorem dR_readItem_5 : decode mR_readItem.2.1 5 = .ok (.getfield 12, 3) := by decide +kernel
theorem dR_readItem_8 : decode mR_readItem.2.1 8 = .ok (.getfield 36, 3) := by decide +kernel
theorem dR_readItem_11 : decode mR_readItem.2.1 11 = .ok (.if_icmp .ge (16), 3) := by decide +kernel
theorem dR_readItem_14 : decode mR_readItem.2.1 14 = .ok (.aload_n 0, 1) := by decide +kernel
theorem dR_readItem_15 : decode mR_readItem.2.1 15 = .ok (.getfield 21, 3) := by decide +kernel
theorem dR_readItem_18 : decode mR_readItem.2.1 18 = .ok (.getfield 33, 3) := by decide +kernel
theorem dR_readItem_21 : decode mR_readItem.2.1 21 = .ok (.sipush (160), 3) := by decide +kernel
theorem dR_readItem_24 : decode mR_readItem.2.1 24 = .ok (.if_icmp .lt (9), 3) := by decide +kernel
theorem dR_readItem_27 : decode mR_readItem.2.1 27 = .ok (.aload_n 0, 1) := by decide +kernel
theorem dR_readItem_28 : decode mR_readItem.2.1 28 = .ok (.iconst 1, 1) := by decide +kernel
theorem dR_readItem_29 : decode mR_readItem.2.1 29 = .ok (.putfield 29, 3) := by decide +kernel
theorem dR_readItem_32 : decode mR_readItem.2.1 32 = .ok (.return_, 1) := by decide +kernel
theorem dR_readItem_33 : decode mR_readItem.2.1 33 = .ok (.aload_n 0, 1) := by decide +kernel
theorem dR_readItem_34 : decode mR_readItem.2.1 34 = .ok (.getfield 21, 3) := by decide +kernel
theorem dR_readItem_37 : decode mR_readItem.2.1 37 = .ok (.getfield 33, 3) := by decide +kernel
theorem dR_readItem_40 : decode mR_readItem.2.1 40 = .ok (.istore_n 2, 1) := by decide +kernel
theorem dR_readItem_41 : decode mR_readItem.2.1 41 = .ok (.aload_n 0, 1) := by decide +kernel
theorem dR_readItem_42 : decode mR_readItem.2.1 42 = .ok (.getfield 25, 3) := by decide +kernel
theorem dR_readItem_45 : decode mR_readItem.2.1 45 = .ok (.istore_n 3, 1) := by decide +kernel
theorem dR_readItem_46 : decode mR_readItem.2.1 46 = .ok (.aload_n 0, 1) := by decide +kernel
theorem dR_readItem_47 : decode mR_readItem.2.1 47 = .ok (.getfield 21, 3) := by decide +kernel
theorem dR_readItem_50 : decode mR_readItem.2.1 50 = .ok (.dup, 1) := by decide +kernel
theorem dR_readItem_51 : decode mR_readItem.2.1 51 = .ok (.getfield 33, 3) := by decide +kernel
theorem dR_readItem_54 : decode mR_readItem.2.1 54 = .ok (.iconst 1, 1) := by decide +kernel
theorem dR_readItem_55 : decode mR_readItem.2.1 55 = .ok (.iadd, 1) := by decide +kernel
theorem dR_readItem_56 : decode mR_readItem.2.1 56 = .ok (.putfield 33, 3) := by decide +kernel
theorem dR_readItem_59 : decode mR_readItem.2.1 59 = .ok (.aload_n 0, 1) := by decide +kernel
theorem dR_readItem_60 : decode mR_readItem.2.1 60 = .ok (.getfield 21, 3) := by decide +kernel
theorem dR_readItem_63 : decode mR_readItem.2.1 63 = .ok (.getfield 56, 3) := by decide +kernel
theorem dR_readItem_66 : decode mR_readItem.2.1 66 = .ok (.iload_n 2, 1) := by decide +kernel
theorem dR_readItem_67 : decode mR_readItem.2.1 67 = .ok (.iload_n 3, 1) := by decide +kernel
theorem dR_readItem_68 : decode mR_readItem.2.1 68 = .ok (.iastore, 1) := by decide +kernel
theorem dR_readItem_69 : decode mR_readItem.2.1 69 = .ok (.aload_n 0, 1) := by decide +kernel
theorem dR_readItem_70 : decode mR_readItem.2.1 70 = .ok (.getfield 21, 3) := by decide +kernel
theorem dR_readItem_73 : decode mR_readItem.2.1 73 = .ok (.getfield 60, 3) := by decide +kernel
theorem dR_readItem_76 : decode mR_readItem.2.1 76 = .ok (.iload_n 2, 1) := by decide +kernel
theorem dR_readItem_77 : decode mR_readItem.2.1 77 = .ok (.iload_n 1, 1) := by decide +kernel
theorem dR_readItem_78 : decode mR_readItem.2.1 78 = .ok (.iastore, 1) := by decide +kernel
theorem dR_readItem_79 : decode mR_readItem.2.1 79 = .ok (.aload_n 0, 1) := by decide +kernel
theorem dR_readItem_80 : decode mR_readItem.2.1 80 = .ok (.bipush (123), 2) := by decide +kernel
theorem dR_readItem_82 : decode mR_readItem.2.1 82 = .ok (.invokevirtual 52, 3) := by decide +kernel
theorem dR_readItem_85 : decode mR_readItem.2.1 85 = .ok (.ifCond .eq (20), 3) := by decide +kernel
theorem dR_readItem_88 : decode mR_readItem.2.1 88 = .ok (.aload_n 0, 1) := by decide +kernel
theorem dR_readItem_89 : decode mR_readItem.2.1 89 = .ok (.getfield 21, 3) := by decide +kernel
theorem dR_readItem_92 : decode mR_readItem.2.1 92 = .ok (.getfield 63, 3) := by decide +kernel
theorem dR_readItem_95 : decode mR_readItem.2.1 95 = .ok (.iload_n 2, 1) := by decide +kernel
theorem dR_readItem_96 : decode mR_readItem.2.1 96 = .ok (.aload_n 0, 1) := by decide +kernel
theorem dR_readItem_97 : decode mR_readItem.2.1 97 = .ok (.iload_n 1, 1) := by decide +kernel
theorem dR_readItem_98 : decode mR_readItem.2.1 98 = .ok (.invokevirtual 66, 3) := by decide +kernel
theorem dR_readItem_101 : decode mR_readItem.2.1 101 = .ok (.iastore, 1) := by decide +kernel
theorem dR_readItem_102 : decode mR_readItem.2.1 102 = .ok (.goto (47), 3) := by decide +kernel
theorem dR_readItem_105 : decode mR_readItem.2.1 105 = .ok (.aload_n 0, 1) := by decide +kernel
theorem dR_readItem_106 : decode mR_readItem.2.1 106 = .ok (.bipush (97), 2) := by decide +kernel
theorem dR_readItem_108 : decode mR_readItem.2.1 108 = .ok (.invokevirtual 69, 3) := by decide +kernel
theorem dR_readItem_111 : decode mR_readItem.2.1 111 = .ok (.aload_n 0, 1) := by decide +kernel
theorem dR_readItem_112 : decode mR_readItem.2.1 112 = .ok (.getfield 21, 3) := by decide +kernel
theorem dR_readItem_115 : decode mR_readItem.2.1 115 = .ok (.getfield 63, 3) := by decide +kernel
theorem dR_readItem_118 : decode mR_readItem.2.1 118 = .ok (.iload_n 2, 1) := by decide +kernel
theorem dR_readItem_119 : decode mR_readItem.2.1 119 = .ok (.aload_n 0, 1) := by decide +kernel
theorem dR_readItem_120 : decode mR_readItem.2.1 120 = .ok (.bipush (61), 2) := by decide +kernel
theorem dR_readItem_122 : decode mR_readItem.2.1 122 = .ok (.invokevirtual 73, 3) := by decide +kernel
theorem dR_readItem_125 : decode mR_readItem.2.1 125 = .ok (.ifCond .eq (11), 3) := by decide +kernel
theorem dR_readItem_128 : decode mR_readItem.2.1 128 = .ok (.aload_n 0, 1) := by decide +kernel
theorem dR_readItem_129 : decode mR_readItem.2.1 129 = .ok (.iload_n 1, 1) := by decide +kernel
theorem dR_readItem_130 : decode mR_readItem.2.1 130 = .ok (.invokevirtual 76, 3) := by decide +kernel
theorem dR_readItem_133 : decode mR_readItem.2.1 133 = .ok (.goto (9), 3) := by decide +kernel
theorem dR_readItem_136 : decode mR_readItem.2.1 136 = .ok (.aload_n 0, 1) := by decide +kernel
theorem dR_readItem_137 : decode mR_readItem.2.1 137 = .ok (.iload_n 3, 1) := by decide +kernel
theorem dR_readItem_138 : decode mR_readItem.2.1 138 = .ok (.iload_n 1, 1) := by decide +kernel
theorem dR_readItem_139 : decode mR_readItem.2.1 139 = .ok (.invokevirtual 79, 3) := by decide +kernel
theorem dR_readItem_142 : decode mR_readItem.2.1 142 = .ok (.iastore, 1) := by decide +kernel
theorem dR_readItem_143 : decode mR_readItem.2.1 143 = .ok (.aload_n 0, 1) := by decide +kernel
theorem dR_readItem_144 : decode mR_readItem.2.1 144 = .ok (.bipush (59), 2) := by decide +kernel
theorem dR_readItem_146 : decode mR_readItem.2.1 146 = .ok (.invokevirtual 69, 3) := by decide +kernel
theorem dR_readItem_149 : decode mR_readItem.2.1 149 = .ok (.aload_n 0, 1) := by decide +kernel
theorem dR_readItem_150 : decode mR_readItem.2.1 150 = .ok (.getfield 21, 3) := by decide +kernel
theorem dR_readItem_153 : decode mR_readItem.2.1 153 = .ok (.getfield 83, 3) := by decide +kernel
theorem dR_readItem_156 : decode mR_readItem.2.1 156 = .ok (.iload_n 2, 1) := by decide +kernel
theorem dR_readItem_157 : decode mR_readItem.2.1 157 = .ok (.aload_n 0, 1) := by decide +kernel
theorem dR_readItem_158 : decode mR_readItem.2.1 158 = .ok (.getfield 25, 3) := by decide +kernel
theorem dR_readItem_161 : decode mR_readItem.2.1 161 = .ok (.iconst 1, 1) := by decide +kernel
theorem dR_readItem_162 : decode mR_readItem.2.1 162 = .ok (.isub, 1) := by decide +kernel
theorem dR_readItem_163 : decode mR_readItem.2.1 163 = .ok (.iastore, 1) := by decide +kernel
theorem dR_readItem_164 : decode mR_readItem.2.1 164 = .ok (.return_, 1) := by decide +kernel
theorem dR_readBlock_0 : decode mR_readBlock.2.1 0 = .ok (.iconst 0, 1) := by decide +kernel
theorem dR_readBlock_1 : decode mR_readBlock.2.1 1 = .ok (.istore_n 2, 1) := by decide +kernel
theorem dR_readBlock_2 : decode mR_readBlock.2.1 2 = .ok (.aload_n 0, 1) := by decide +kernel
theorem dR_readBlock_3 : decode mR_readBlock.2.1 3 = .ok (.bipush (123), 2) := by decide +kernel
theorem dR_readBlock_5 : decode mR_readBlock.2.1 5 = .ok (.iload_n 1, 1) := by decide +kernel
theorem dR_readBlock_6 : decode mR_readBlock.2.1 6 = .ok (.invokevirtual 86, 3) := by decide +kernel
theorem dR_readBlock_9 : decode mR_readBlock.2.1 9 = .ok (.ifCond .eq (45), 3) := by decide +kernel
theorem dR_readBlock_12 : decode mR_readBlock.2.1 12 = .ok (.iload_n 2, 1) := by decide +kernel
theorem dR_readBlock_13 : decode mR_readBlock.2.1 13 = .ok (.sipush (160), 3) := by decide +kernel
theorem dR_readBlock_16 : decode mR_readBlock.2.1 16 = .ok (.if_icmp .ge (32), 3) := by decide +kernel
theorem dR_readBlock_19 : decode mR_readBlock.2.1 19 = .ok (.aload_n 0, 1) := by decide +kernel
theorem dR_readBlock_20 : decode mR_readBlock.2.1 20 = .ok (.getfield 29, 3) := by decide +kernel
theorem dR_readBlock_23 : decode mR_readBlock.2.1 23 = .ok (.ifCond .ne (25), 3) := by decide +kernel
theorem dR_readBlock_26 : decode mR_readBlock.2.1 26 = .ok (.aload_n 0, 1) := by decide +kernel
theorem dR_readBlock_27 : decode mR_readBlock.2.1 27 = .ok (.bipush (125), 2) := by decide +kernel
theorem dR_readBlock_29 : decode mR_readBlock.2.1 29 = .ok (.invokevirtual 52, 3) := by decide +kernel
theorem dR_readBlock_32 : decode mR_readBlock.2.1 32 = .ok (.ifCond .ne (16), 3) := by decide +kernel
theorem dR_readBlock_35 : decode mR_readBlock.2.1 35 = .ok (.aload_n 0, 1) := by decide +kernel
theorem dR_readBlock_36 : decode mR_readBlock.2.1 36 = .ok (.iload_n 1, 1) := by decide +kernel
theorem dR_readBlock_37 : decode mR_readBlock.2.1 37 = .ok (.iconst 1, 1) := by decide +kernel
theorem dR_readBlock_38 : decode mR_readBlock.2.1 38 = .ok (.iadd, 1) := by decide +kernel
theorem dR_readBlock_39 : decode mR_readBlock.2.1 39 = .ok (.invokevirtual 37, 3) := by decide +kernel
theorem dR_readBlock_42 : decode mR_readBlock.2.1 42 = .ok (.iinc 2 (1), 3) := by decide +kernel
theorem dR_readBlock_45 : decode mR_readBlock.2.1 45 = .ok (.goto (-33), 3) := by decide +kernel
theorem dR_readBlock_48 : decode mR_readBlock.2.1 48 = .ok (.aload_n 0, 1) := by decide +kernel
theorem dR_readBlock_49 : decode mR_readBlock.2.1 49 = .ok (.bipush (125), 2) := by decide +kernel
theorem dR_readBlock_51 : decode mR_readBlock.2.1 51 = .ok (.invokevirtual 69, 3) := by decide +kernel
theorem dR_readBlock_54 : decode mR_readBlock.2.1 54 = .ok (.iload_n 2, 1) := by decide +kernel
theorem dR_readBlock_55 : decode mR_readBlock.2.1 55 = .ok (.ireturn, 1) := by decide +kernel
theorem dR_readSum_0 : decode mR_readSum.2.1 0 = .ok (.iconst 0, 1) := by decide +kernel
theorem dR_readSum_1 : decode mR_readSum.2.1 1 = .ok (.istore_n 2, 1) := by decide +kernel
theorem dR_readSum_2 : decode mR_readSum.2.1 2 = .ok (.aload_n 0, 1) := by decide +kernel
theorem dR_readSum_3 : decode mR_readSum.2.1 3 = .ok (.iload_n 1, 1) := by decide +kernel
theorem dR_readSum_4 : decode mR_readSum.2.1 4 = .ok (.invokevirtual 90, 3) := by decide +kernel
theorem dR_readSum_7 : decode mR_readSum.2.1 7 = .ok (.istore_n 3, 1) := by decide +kernel
theorem dR_readSum_8 : decode mR_readSum.2.1 8 = .ok (.iconst 0, 1) := by decide +kernel
theorem dR_readSum_9 : decode mR_readSum.2.1 9 = .ok (.istore 4, 2) := by decide +kernel
theorem dR_readSum_11 : decode mR_readSum.2.1 11 = .ok (.iload 4, 2) := by decide +kernel
theorem dR_readSum_13 : decode mR_readSum.2.1 13 = .ok (.sipush (160), 3) := by decide +kernel
theorem dR_readSum_16 : decode mR_readSum.2.1 16 = .ok (.if_icmp .ge (79), 3) := by decide +kernel
theorem dR_readSum_19 : decode mR_readSum.2.1 19 = .ok (.aload_n 0, 1) := by decide +kernel
theorem dR_readSum_20 : decode mR_readSum.2.1 20 = .ok (.getfield 29, 3) := by decide +kernel
theorem dR_readSum_23 : decode mR_readSum.2.1 23 = .ok (.ifCond .ne (72), 3) := by decide +kernel
theorem dR_readSum_26 : decode mR_readSum.2.1 26 = .ok (.aload_n 0, 1) := by decide +kernel
theorem dR_readSum_27 : decode mR_readSum.2.1 27 = .ok (.bipush (42), 2) := by decide +kernel
theorem dR_readSum_29 : decode mR_readSum.2.1 29 = .ok (.invokevirtual 73, 3) := by decide +kernel
theorem dR_readSum_32 : decode mR_readSum.2.1 32 = .ok (.ifCond .eq (14), 3) := by decide +kernel
theorem dR_readSum_35 : decode mR_readSum.2.1 35 = .ok (.iload_n 3, 1) := by decide +kernel
theorem dR_readSum_36 : decode mR_readSum.2.1 36 = .ok (.aload_n 0, 1) := by decide +kernel
theorem dR_readSum_37 : decode mR_readSum.2.1 37 = .ok (.iload_n 1, 1) := by decide +kernel
theorem dR_readSum_38 : decode mR_readSum.2.1 38 = .ok (.invokevirtual 90, 3) := by decide +kernel
theorem dR_readSum_41 : decode mR_readSum.2.1 41 = .ok (.imul, 1) := by decide +kernel
theorem dR_readSum_42 : decode mR_readSum.2.1 42 = .ok (.istore_n 3, 1) := by decide +kernel
theorem dR_readSum_43 : decode mR_readSum.2.1 43 = .ok (.goto (46), 3) := by decide +kernel
theorem dR_readSum_46 : decode mR_readSum.2.1 46 = .ok (.aload_n 0, 1) := by decide +kernel
theorem dR_readSum_47 : decode mR_readSum.2.1 47 = .ok (.bipush (43), 2) := by decide +kernel
theorem dR_readSum_49 : decode mR_readSum.2.1 49 = .ok (.invokevirtual 73, 3) := by decide +kernel
theorem dR_readSum_52 : decode mR_readSum.2.1 52 = .ok (.ifCond .eq (16), 3) := by decide +kernel
theorem dR_readSum_55 : decode mR_readSum.2.1 55 = .ok (.iload_n 2, 1) := by decide +kernel
theorem dR_readSum_56 : decode mR_readSum.2.1 56 = .ok (.iload_n 3, 1) := by decide +kernel
theorem dR_readSum_57 : decode mR_readSum.2.1 57 = .ok (.iadd, 1) := by decide +kernel
theorem dR_readSum_58 : decode mR_readSum.2.1 58 = .ok (.istore_n 2, 1) := by decide +kernel
theorem dR_readSum_59 : decode mR_readSum.2.1 59 = .ok (.aload_n 0, 1) := by decide +kernel
theorem dR_readSum_60 : decode mR_readSum.2.1 60 = .ok (.iload_n 1, 1) := by decide +kernel
theorem dR_readSum_61 : decode mR_readSum.2.1 61 = .ok (.invokevirtual 90, 3) := by decide +kernel
theorem dR_readSum_64 : decode mR_readSum.2.1 64 = .ok (.istore_n 3, 1) := by decide +kernel
theorem dR_readSum_65 : decode mR_readSum.2.1 65 = .ok (.goto (24), 3) := by decide +kernel
theorem dR_readSum_68 : decode mR_readSum.2.1 68 = .ok (.aload_n 0, 1) := by decide +kernel
theorem dR_readSum_69 : decode mR_readSum.2.1 69 = .ok (.bipush (45), 2) := by decide +kernel
theorem dR_readSum_71 : decode mR_readSum.2.1 71 = .ok (.invokevirtual 73, 3) := by decide +kernel
theorem dR_readSum_74 : decode mR_readSum.2.1 74 = .ok (.ifCond .eq (21), 3) := by decide +kernel
theorem dR_readSum_77 : decode mR_readSum.2.1 77 = .ok (.iload_n 2, 1) := by decide +kernel
theorem dR_readSum_78 : decode mR_readSum.2.1 78 = .ok (.iload_n 3, 1) := by decide +kernel
theorem dR_readSum_79 : decode mR_readSum.2.1 79 = .ok (.iadd, 1) := by decide +kernel
theorem dR_readSum_80 : decode mR_readSum.2.1 80 = .ok (.istore_n 2, 1) := by decide +kernel
theorem dR_readSum_81 : decode mR_readSum.2.1 81 = .ok (.iconst 0, 1) := by decide +kernel
theorem dR_readSum_82 : decode mR_readSum.2.1 82 = .ok (.aload_n 0, 1) := by decide +kernel
theorem dR_readSum_83 : decode mR_readSum.2.1 83 = .ok (.iload_n 1, 1) := by decide +kernel
theorem dR_readSum_84 : decode mR_readSum.2.1 84 = .ok (.invokevirtual 90, 3) := by decide +kernel
theorem dR_readSum_87 : decode mR_readSum.2.1 87 = .ok (.isub, 1) := by decide +kernel
theorem dR_readSum_88 : decode mR_readSum.2.1 88 = .ok (.istore_n 3, 1) := by decide +kernel
theorem dR_readSum_89 : decode mR_readSum.2.1 89 = .ok (.iinc 4 (1), 3) := by decide +kernel
theorem dR_readSum_92 : decode mR_readSum.2.1 92 = .ok (.goto (-81), 3) := by decide +kernel
theorem dR_readSum_95 : decode mR_readSum.2.1 95 = .ok (.iload_n 2, 1) := by decide +kernel
theorem dR_readSum_96 : decode mR_readSum.2.1 96 = .ok (.iload_n 3, 1) := by decide +kernel
theorem dR_readSum_97 : decode mR_readSum.2.1 97 = .ok (.iadd, 1) := by decide +kernel
theorem dR_readSum_98 : decode mR_readSum.2.1 98 = .ok (.ireturn, 1) := by decide +kernel
theorem dR_readFactor_0 : decode mR_readFactor.2.1 0 = .ok (.aload_n 0, 1) := by decide +kernel
theorem dR_readFactor_1 : decode mR_readFactor.2.1 1 = .ok (.getfield 25, 3) := by decide +kernel
theorem dR_readFactor_4 : decode mR_readFactor.2.1 4 = .ok (.istore_n 2, 1) := by decide +kernel
theorem dR_readFactor_5 : decode mR_readFactor.2.1 5 = .ok (.aload_n 0, 1) := by decide +kernel
theorem dR_readFactor_6 : decode mR_readFactor.2.1 6 = .ok (.bipush (48), 2) := by decide +kernel
theorem dR_readFactor_8 : decode mR_readFactor.2.1 8 = .ok (.invokevirtual 73, 3) := by decide +kernel
theorem dR_readFactor_11 : decode mR_readFactor.2.1 11 = .ok (.ifCond .eq (12), 3) := by decide +kernel
theorem dR_readFactor_14 : decode mR_readFactor.2.1 14 = .ok (.aload_n 0, 1) := by decide +kernel
theorem dR_readFactor_15 : decode mR_readFactor.2.1 15 = .ok (.getfield 12, 3) := by decide +kernel
theorem dR_readFactor_18 : decode mR_readFactor.2.1 18 = .ok (.iload_n 2, 1) := by decide +kernel
theorem dR_readFactor_19 : decode mR_readFactor.2.1 19 = .ok (.invokevirtual 93, 3) := by decide +kernel
theorem dR_readFactor_22 : decode mR_readFactor.2.1 22 = .ok (.ireturn, 1) := by decide +kernel
theorem dR_readFactor_23 : decode mR_readFactor.2.1 23 = .ok (.aload_n 0, 1) := by decide +kernel
theorem dR_readFactor_24 : decode mR_readFactor.2.1 24 = .ok (.bipush (34), 2) := by decide +kernel
theorem dR_readFactor_26 : decode mR_readFactor.2.1 26 = .ok (.invokevirtual 73, 3) := by decide +kernel
theorem dR_readFactor_29 : decode mR_readFactor.2.1 29 = .ok (.ifCond .eq (14), 3) := by decide +kernel
theorem dR_readFactor_32 : decode mR_readFactor.2.1 32 = .ok (.aload_n 0, 1) := by decide +kernel
theorem dR_readFactor_33 : decode mR_readFactor.2.1 33 = .ok (.getfield 12, 3) := by decide +kernel
theorem dR_readFactor_36 : decode mR_readFactor.2.1 36 = .ok (.iload_n 2, 1) := by decide +kernel
theorem dR_readFactor_37 : decode mR_readFactor.2.1 37 = .ok (.invokevirtual 96, 3) := by decide +kernel
theorem dR_readFactor_40 : decode mR_readFactor.2.1 40 = .ok (.iconst 2, 1) := by decide +kernel
theorem dR_readFactor_41 : decode mR_readFactor.2.1 41 = .ok (.isub, 1) := by decide +kernel
theorem dR_readFactor_42 : decode mR_readFactor.2.1 42 = .ok (.ireturn, 1) := by decide +kernel
theorem dR_readFactor_43 : decode mR_readFactor.2.1 43 = .ok (.aload_n 0, 1) := by decide +kernel
theorem dR_readFactor_44 : decode mR_readFactor.2.1 44 = .ok (.bipush (97), 2) := by decide +kernel
theorem dR_readFactor_46 : decode mR_readFactor.2.1 46 = .ok (.invokevirtual 73, 3) := by decide +kernel
theorem dR_readFactor_49 : decode mR_readFactor.2.1 49 = .ok (.ifCond .eq (27), 3) := by decide +kernel
theorem dR_readFactor_52 : decode mR_readFactor.2.1 52 = .ok (.aload_n 0, 1) := by decide +kernel
theorem dR_readFactor_53 : decode mR_readFactor.2.1 53 = .ok (.bipush (40), 2) := by decide +kernel
theorem dR_readFactor_55 : decode mR_readFactor.2.1 55 = .ok (.invokevirtual 52, 3) := by decide +kernel
theorem dR_readFactor_58 : decode mR_readFactor.2.1 58 = .ok (.ifCond .eq (12), 3) := by decide +kernel
theorem dR_readFactor_61 : decode mR_readFactor.2.1 61 = .ok (.aload_n 0, 1) := by decide +kernel
theorem dR_readFactor_62 : decode mR_readFactor.2.1 62 = .ok (.iload_n 2, 1) := by decide +kernel
theorem dR_readFactor_63 : decode mR_readFactor.2.1 63 = .ok (.iload_n 1, 1) := by decide +kernel
theorem dR_readFactor_64 : decode mR_readFactor.2.1 64 = .ok (.invokevirtual 79, 3) := by decide +kernel
theorem dR_readFactor_67 : decode mR_readFactor.2.1 67 = .ok (.goto (8), 3) := by decide +kernel
theorem dR_readFactor_70 : decode mR_readFactor.2.1 70 = .ok (.aload_n 0, 1) := by decide +kernel
theorem dR_readFactor_71 : decode mR_readFactor.2.1 71 = .ok (.iload_n 2, 1) := by decide +kernel
theorem dR_readFactor_72 : decode mR_readFactor.2.1 72 = .ok (.invokevirtual 99, 3) := by decide +kernel
theorem dR_readFactor_75 : decode mR_readFactor.2.1 75 = .ok (.ireturn, 1) := by decide +kernel
theorem dR_readFactor_76 : decode mR_readFactor.2.1 76 = .ok (.aload_n 0, 1) := by decide +kernel
theorem dR_readFactor_77 : decode mR_readFactor.2.1 77 = .ok (.bipush (45), 2) := by decide +kernel
theorem dR_readFactor_79 : decode mR_readFactor.2.1 79 = .ok (.iload_n 1, 1) := by decide +kernel
theorem dR_readFactor_80 : decode mR_readFactor.2.1 80 = .ok (.invokevirtual 86, 3) := by decide +kernel
theorem dR_readFactor_83 : decode mR_readFactor.2.1 83 = .ok (.ifCond .eq (13), 3) := by decide +kernel
theorem dR_readFactor_86 : decode mR_readFactor.2.1 86 = .ok (.iconst 0, 1) := by decide +kernel
theorem dR_readFactor_87 : decode mR_readFactor.2.1 87 = .ok (.aload_n 0, 1) := by decide +kernel
theorem dR_readFactor_88 : decode mR_readFactor.2.1 88 = .ok (.iload_n 1, 1) := by decide +kernel
theorem dR_readFactor_89 : decode mR_readFactor.2.1 89 = .ok (.iconst 1, 1) := by decide +kernel
theorem dR_readFactor_90 : decode mR_readFactor.2.1 90 = .ok (.iadd, 1) := by decide +kernel
theorem dR_readFactor_91 : decode mR_readFactor.2.1 91 = .ok (.invokevirtual 90, 3) := by decide +kernel
theorem dR_readFactor_94 : decode mR_readFactor.2.1 94 = .ok (.isub, 1) := by decide +kernel
theorem dR_readFactor_95 : decode mR_readFactor.2.1 95 = .ok (.ireturn, 1) := by decide +kernel
theorem dR_readFactor_96 : decode mR_readFactor.2.1 96 = .ok (.aload_n 0, 1) := by decide +kernel
theorem dR_readFactor_97 : decode mR_readFactor.2.1 97 = .ok (.bipush (40), 2) := by decide +kernel
theorem dR_readFactor_99 : decode mR_readFactor.2.1 99 = .ok (.iload_n 1, 1) := by decide +kernel
theorem dR_readFactor_100 : decode mR_readFactor.2.1 100 = .ok (.invokevirtual 86, 3) := by decide +kernel
theorem dR_readFactor_103 : decode mR_readFactor.2.1 103 = .ok (.ifCond .eq (19), 3) := by decide +kernel
theorem dR_readFactor_106 : decode mR_readFactor.2.1 106 = .ok (.aload_n 0, 1) := by decide +kernel
theorem dR_readFactor_107 : decode mR_readFactor.2.1 107 = .ok (.iload_n 1, 1) := by decide +kernel
theorem dR_readFactor_108 : decode mR_readFactor.2.1 108 = .ok (.iconst 1, 1) := by decide +kernel
theorem dR_readFactor_109 : decode mR_readFactor.2.1 109 = .ok (.iadd, 1) := by decide +kernel
theorem dR_readFactor_110 : decode mR_readFactor.2.1 110 = .ok (.invokevirtual 76, 3) := by decide +kernel
theorem dR_readFactor_113 : decode mR_readFactor.2.1 113 = .ok (.istore_n 3, 1) := by decide +kernel
theorem dR_readFactor_114 : decode mR_readFactor.2.1 114 = .ok (.aload_n 0, 1) := by decide +kernel
theorem dR_readFactor_115 : decode mR_readFactor.2.1 115 = .ok (.bipush (41), 2) := by decide +kernel
theorem dR_readFactor_117 : decode mR_readFactor.2.1 117 = .ok (.invokevirtual 69, 3) := by decide +kernel
theorem dR_readFactor_120 : decode mR_readFactor.2.1 120 = .ok (.iload_n 3, 1) := by decide +kernel
theorem dR_readFactor_121 : decode mR_readFactor.2.1 121 = .ok (.ireturn, 1) := by decide +kernel
theorem dR_readFactor_122 : decode mR_readFactor.2.1 122 = .ok (.aload_n 0, 1) := by decide +kernel
theorem dR_readFactor_123 : decode mR_readFactor.2.1 123 = .ok (.iconst 1, 1) := by decide +kernel
theorem dR_readFactor_124 : decode mR_readFactor.2.1 124 = .ok (.putfield 29, 3) := by decide +kernel
theorem dR_readFactor_127 : decode mR_readFactor.2.1 127 = .ok (.iconst 0, 1) := by decide +kernel
theorem dR_readFactor_128 : decode mR_readFactor.2.1 128 = .ok (.ireturn, 1) := by decide +kernel
theorem dR_readCall_0 : decode mR_readCall.2.1 0 = .ok (.aload_n 0, 1) := by decide +kernel
theorem dR_readCall_1 : decode mR_readCall.2.1 1 = .ok (.getfield 12, 3) := by decide +kernel
theorem dR_readCall_4 : decode mR_readCall.2.1 4 = .ok (.iload_n 1, 1) := by decide +kernel
theorem dR_readCall_5 : decode mR_readCall.2.1 5 = .ok (.invokevirtual 96, 3) := by decide +kernel
theorem dR_readCall_8 : decode mR_readCall.2.1 8 = .ok (.istore_n 3, 1) := by decide +kernel
theorem dR_readCall_9 : decode mR_readCall.2.1 9 = .ok (.aload_n 0, 1) := by decide +kernel
theorem dR_readCall_10 : decode mR_readCall.2.1 10 = .ok (.bipush (40), 2) := by decide +kernel
theorem dR_readCall_12 : decode mR_readCall.2.1 12 = .ok (.iload_n 2, 1) := by decide +kernel
theorem dR_readCall_13 : decode mR_readCall.2.1 13 = .ok (.invokevirtual 86, 3) := by decide +kernel
theorem dR_readCall_16 : decode mR_readCall.2.1 16 = .ok (.ifCond .ne (10), 3) := by decide +kernel
theorem dR_readCall_19 : decode mR_readCall.2.1 19 = .ok (.aload_n 0, 1) := by decide +kernel
theorem dR_readCall_20 : decode mR_readCall.2.1 20 = .ok (.iconst 1, 1) := by decide +kernel
theorem dR_readCall_21 : decode mR_readCall.2.1 21 = .ok (.putfield 29, 3) := by decide +kernel
theorem dR_readCall_24 : decode mR_readCall.2.1 24 = .ok (.iconst 0, 1) := by decide +kernel
theorem dR_readCall_25 : decode mR_readCall.2.1 25 = .ok (.ireturn, 1) := by decide +kernel
theorem dR_readCall_26 : decode mR_readCall.2.1 26 = .ok (.aload_n 0, 1) := by decide +kernel
theorem dR_readCall_27 : decode mR_readCall.2.1 27 = .ok (.bipush (41), 2) := by decide +kernel
theorem dR_readCall_29 : decode mR_readCall.2.1 29 = .ok (.invokevirtual 73, 3) := by decide +kernel
theorem dR_readCall_32 : decode mR_readCall.2.1 32 = .ok (.ifCond .eq (5), 3) := by decide +kernel
theorem dR_readCall_35 : decode mR_readCall.2.1 35 = .ok (.iload_n 3, 1) := by decide +kernel
theorem dR_readCall_36 : decode mR_readCall.2.1 36 = .ok (.ireturn, 1) := by decide +kernel
theorem dR_readCall_37 : decode mR_readCall.2.1 37 = .ok (.bipush (31), 2) := by decide +kernel
theorem dR_readCall_39 : decode mR_readCall.2.1 39 = .ok (.iload_n 3, 1) := by decide +kernel
theorem dR_readCall_40 : decode mR_readCall.2.1 40 = .ok (.imul, 1) := by decide +kernel
theorem dR_readCall_41 : decode mR_readCall.2.1 41 = .ok (.aload_n 0, 1) := by decide +kernel
theorem dR_readCall_42 : decode mR_readCall.2.1 42 = .ok (.iload_n 2, 1) := by decide +kernel
theorem dR_readCall_43 : decode mR_readCall.2.1 43 = .ok (.iconst 1, 1) := by decide +kernel
theorem dR_readCall_44 : decode mR_readCall.2.1 44 = .ok (.iadd, 1) := by decide +kernel
theorem dR_readCall_45 : decode mR_readCall.2.1 45 = .ok (.invokevirtual 76, 3) := by decide +kernel
theorem dR_readCall_48 : decode mR_readCall.2.1 48 = .ok (.iadd, 1) := by decide +kernel
theorem dR_readCall_49 : decode mR_readCall.2.1 49 = .ok (.istore_n 3, 1) := by decide +kernel
theorem dR_readCall_50 : decode mR_readCall.2.1 50 = .ok (.iconst 0, 1) := by decide +kernel
theorem dR_readCall_51 : decode mR_readCall.2.1 51 = .ok (.istore 4, 2) := by decide +kernel
theorem dR_readCall_53 : decode mR_readCall.2.1 53 = .ok (.iload 4, 2) := by decide +kernel
theorem dR_readCall_55 : decode mR_readCall.2.1 55 = .ok (.sipush (160), 3) := by decide +kernel
theorem dR_readCall_58 : decode mR_readCall.2.1 58 = .ok (.if_icmp .ge (31), 3) := by decide +kernel
theorem dR_readCall_61 : decode mR_readCall.2.1 61 = .ok (.aload_n 0, 1) := by decide +kernel
theorem dR_readCall_62 : decode mR_readCall.2.1 62 = .ok (.bipush (44), 2) := by decide +kernel
theorem dR_readCall_64 : decode mR_readCall.2.1 64 = .ok (.invokevirtual 73, 3) := by decide +kernel
theorem dR_readCall_67 : decode mR_readCall.2.1 67 = .ok (.ifCond .eq (22), 3) := by decide +kernel
theorem dR_readCall_70 : decode mR_readCall.2.1 70 = .ok (.bipush (31), 2) := by decide +kernel
theorem dR_readCall_72 : decode mR_readCall.2.1 72 = .ok (.iload_n 3, 1) := by decide +kernel
theorem dR_readCall_73 : decode mR_readCall.2.1 73 = .ok (.imul, 1) := by decide +kernel
theorem dR_readCall_74 : decode mR_readCall.2.1 74 = .ok (.aload_n 0, 1) := by decide +kernel
theorem dR_readCall_75 : decode mR_readCall.2.1 75 = .ok (.iload_n 2, 1) := by decide +kernel
theorem dR_readCall_76 : decode mR_readCall.2.1 76 = .ok (.iconst 1, 1) := by decide +kernel
theorem dR_readCall_77 : decode mR_readCall.2.1 77 = .ok (.iadd, 1) := by decide +kernel
