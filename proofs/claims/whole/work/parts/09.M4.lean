theorem dM_giveNumbers_15 : decode mM_giveNumbers.2.1 15 = .ok (.aload_n 0, 1) := by decide +kernel
theorem dM_giveNumbers_16 : decode mM_giveNumbers.2.1 16 = .ok (.iload_n 1, 1) := by decide +kernel
theorem dM_giveNumbers_17 : decode mM_giveNumbers.2.1 17 = .ok (.invokevirtual 241, 3) := by decide +kernel
theorem dM_giveNumbers_20 : decode mM_giveNumbers.2.1 20 = .ok (.istore_n 2, 1) := by decide +kernel
theorem dM_giveNumbers_21 : decode mM_giveNumbers.2.1 21 = .ok (.iload_n 2, 1) := by decide +kernel
theorem dM_giveNumbers_22 : decode mM_giveNumbers.2.1 22 = .ok (.ifCond .lt (28), 3) := by decide +kernel
theorem dM_giveNumbers_25 : decode mM_giveNumbers.2.1 25 = .ok (.aload_n 0, 1) := by decide +kernel
theorem dM_giveNumbers_26 : decode mM_giveNumbers.2.1 26 = .ok (.getfield 54, 3) := by decide +kernel
theorem dM_giveNumbers_29 : decode mM_giveNumbers.2.1 29 = .ok (.iload_n 1, 1) := by decide +kernel
theorem dM_giveNumbers_30 : decode mM_giveNumbers.2.1 30 = .ok (.aload_n 0, 1) := by decide +kernel
theorem dM_giveNumbers_31 : decode mM_giveNumbers.2.1 31 = .ok (.getfield 66, 3) := by decide +kernel
theorem dM_giveNumbers_34 : decode mM_giveNumbers.2.1 34 = .ok (.iload_n 2, 1) := by decide +kernel
theorem dM_giveNumbers_35 : decode mM_giveNumbers.2.1 35 = .ok (.iaload, 1) := by decide +kernel
theorem dM_giveNumbers_36 : decode mM_giveNumbers.2.1 36 = .ok (.iastore, 1) := by decide +kernel
theorem dM_giveNumbers_37 : decode mM_giveNumbers.2.1 37 = .ok (.aload_n 0, 1) := by decide +kernel
theorem dM_giveNumbers_38 : decode mM_giveNumbers.2.1 38 = .ok (.dup, 1) := by decide +kernel
theorem dM_giveNumbers_39 : decode mM_giveNumbers.2.1 39 = .ok (.getfield 238, 3) := by decide +kernel
theorem dM_giveNumbers_42 : decode mM_giveNumbers.2.1 42 = .ok (.iconst 1, 1) := by decide +kernel
theorem dM_giveNumbers_43 : decode mM_giveNumbers.2.1 43 = .ok (.iadd, 1) := by decide +kernel
theorem dM_giveNumbers_44 : decode mM_giveNumbers.2.1 44 = .ok (.putfield 238, 3) := by decide +kernel
theorem dM_giveNumbers_47 : decode mM_giveNumbers.2.1 47 = .ok (.goto (23), 3) := by decide +kernel
theorem dM_giveNumbers_50 : decode mM_giveNumbers.2.1 50 = .ok (.aload_n 0, 1) := by decide +kernel
theorem dM_giveNumbers_51 : decode mM_giveNumbers.2.1 51 = .ok (.getfield 54, 3) := by decide +kernel
theorem dM_giveNumbers_54 : decode mM_giveNumbers.2.1 54 = .ok (.iload_n 1, 1) := by decide +kernel
theorem dM_giveNumbers_55 : decode mM_giveNumbers.2.1 55 = .ok (.aload_n 0, 1) := by decide +kernel
theorem dM_giveNumbers_56 : decode mM_giveNumbers.2.1 56 = .ok (.getfield 244, 3) := by decide +kernel
theorem dM_giveNumbers_59 : decode mM_giveNumbers.2.1 59 = .ok (.iastore, 1) := by decide +kernel
theorem dM_giveNumbers_60 : decode mM_giveNumbers.2.1 60 = .ok (.aload_n 0, 1) := by decide +kernel
theorem dM_giveNumbers_61 : decode mM_giveNumbers.2.1 61 = .ok (.dup, 1) := by decide +kernel
theorem dM_giveNumbers_62 : decode mM_giveNumbers.2.1 62 = .ok (.getfield 244, 3) := by decide +kernel
theorem dM_giveNumbers_65 : decode mM_giveNumbers.2.1 65 = .ok (.iconst 1, 1) := by decide +kernel
theorem dM_giveNumbers_66 : decode mM_giveNumbers.2.1 66 = .ok (.iadd, 1) := by decide +kernel
theorem dM_giveNumbers_67 : decode mM_giveNumbers.2.1 67 = .ok (.putfield 244, 3) := by decide +kernel
theorem dM_giveNumbers_70 : decode mM_giveNumbers.2.1 70 = .ok (.iinc 1 (1), 3) := by decide +kernel
theorem dM_giveNumbers_73 : decode mM_giveNumbers.2.1 73 = .ok (.goto (-66), 3) := by decide +kernel
theorem dM_giveNumbers_76 : decode mM_giveNumbers.2.1 76 = .ok (.return_, 1) := by decide +kernel
theorem dM_edit_0 : decode mM_edit.2.1 0 = .ok (.aload_n 0, 1) := by decide +kernel
theorem dM_edit_1 : decode mM_edit.2.1 1 = .ok (.iload_n 1, 1) := by decide +kernel
theorem dM_edit_2 : decode mM_edit.2.1 2 = .ok (.ifCond .lt (25), 3) := by decide +kernel
theorem dM_edit_5 : decode mM_edit.2.1 5 = .ok (.iload_n 1, 1) := by decide +kernel
theorem dM_edit_6 : decode mM_edit.2.1 6 = .ok (.aload_n 0, 1) := by decide +kernel
theorem dM_edit_7 : decode mM_edit.2.1 7 = .ok (.getfield 103, 3) := by decide +kernel
theorem dM_edit_10 : decode mM_edit.2.1 10 = .ok (.if_icmp .gt (17), 3) := by decide +kernel
theorem dM_edit_13 : decode mM_edit.2.1 13 = .ok (.iload_n 2, 1) := by decide +kernel
theorem dM_edit_14 : decode mM_edit.2.1 14 = .ok (.ifCond .lt (13), 3) := by decide +kernel
theorem dM_edit_17 : decode mM_edit.2.1 17 = .ok (.iload_n 2, 1) := by decide +kernel
theorem dM_edit_18 : decode mM_edit.2.1 18 = .ok (.aload_n 0, 1) := by decide +kernel
theorem dM_edit_19 : decode mM_edit.2.1 19 = .ok (.getfield 103, 3) := by decide +kernel
theorem dM_edit_22 : decode mM_edit.2.1 22 = .ok (.iload_n 1, 1) := by decide +kernel
theorem dM_edit_23 : decode mM_edit.2.1 23 = .ok (.isub, 1) := by decide +kernel
theorem dM_edit_24 : decode mM_edit.2.1 24 = .ok (.if_icmp .le (7), 3) := by decide +kernel
theorem dM_edit_27 : decode mM_edit.2.1 27 = .ok (.iconst 1, 1) := by decide +kernel
theorem dM_edit_28 : decode mM_edit.2.1 28 = .ok (.goto (25), 3) := by decide +kernel
theorem dM_edit_31 : decode mM_edit.2.1 31 = .ok (.aload_n 0, 1) := by decide +kernel
theorem dM_edit_32 : decode mM_edit.2.1 32 = .ok (.getfield 103, 3) := by decide +kernel
theorem dM_edit_35 : decode mM_edit.2.1 35 = .ok (.iload_n 2, 1) := by decide +kernel
theorem dM_edit_36 : decode mM_edit.2.1 36 = .ok (.isub, 1) := by decide +kernel
theorem dM_edit_37 : decode mM_edit.2.1 37 = .ok (.aload_n 0, 1) := by decide +kernel
theorem dM_edit_38 : decode mM_edit.2.1 38 = .ok (.getfield 100, 3) := by decide +kernel
theorem dM_edit_41 : decode mM_edit.2.1 41 = .ok (.iadd, 1) := by decide +kernel
theorem dM_edit_42 : decode mM_edit.2.1 42 = .ok (.sipush (160), 3) := by decide +kernel
theorem dM_edit_45 : decode mM_edit.2.1 45 = .ok (.if_icmp .le (7), 3) := by decide +kernel
theorem dM_edit_48 : decode mM_edit.2.1 48 = .ok (.iconst 2, 1) := by decide +kernel
theorem dM_edit_49 : decode mM_edit.2.1 49 = .ok (.goto (4), 3) := by decide +kernel
theorem dM_edit_52 : decode mM_edit.2.1 52 = .ok (.iconst 0, 1) := by decide +kernel
theorem dM_edit_53 : decode mM_edit.2.1 53 = .ok (.putfield 97, 3) := by decide +kernel
theorem dM_edit_56 : decode mM_edit.2.1 56 = .ok (.aload_n 0, 1) := by decide +kernel
theorem dM_edit_57 : decode mM_edit.2.1 57 = .ok (.getfield 97, 3) := by decide +kernel
theorem dM_edit_60 : decode mM_edit.2.1 60 = .ok (.ifCond .le (5), 3) := by decide +kernel
theorem dM_edit_63 : decode mM_edit.2.1 63 = .ok (.iconst 0, 1) := by decide +kernel
theorem dM_edit_64 : decode mM_edit.2.1 64 = .ok (.ireturn, 1) := by decide +kernel
theorem dM_edit_65 : decode mM_edit.2.1 65 = .ok (.aload_n 0, 1) := by decide +kernel
theorem dM_edit_66 : decode mM_edit.2.1 66 = .ok (.getfield 100, 3) := by decide +kernel
theorem dM_edit_69 : decode mM_edit.2.1 69 = .ok (.iload_n 2, 1) := by decide +kernel
theorem dM_edit_70 : decode mM_edit.2.1 70 = .ok (.isub, 1) := by decide +kernel
theorem dM_edit_71 : decode mM_edit.2.1 71 = .ok (.istore_n 3, 1) := by decide +kernel
theorem dM_edit_72 : decode mM_edit.2.1 72 = .ok (.aload_n 0, 1) := by decide +kernel
theorem dM_edit_73 : decode mM_edit.2.1 73 = .ok (.invokevirtual 247, 3) := by decide +kernel
theorem dM_edit_76 : decode mM_edit.2.1 76 = .ok (.aload_n 0, 1) := by decide +kernel
theorem dM_edit_77 : decode mM_edit.2.1 77 = .ok (.iload_n 1, 1) := by decide +kernel
theorem dM_edit_78 : decode mM_edit.2.1 78 = .ok (.iload_n 2, 1) := by decide +kernel
theorem dM_edit_79 : decode mM_edit.2.1 79 = .ok (.invokevirtual 250, 3) := by decide +kernel
theorem dM_edit_82 : decode mM_edit.2.1 82 = .ok (.aload_n 0, 1) := by decide +kernel
theorem dM_edit_83 : decode mM_edit.2.1 83 = .ok (.invokevirtual 253, 3) := by decide +kernel
theorem dM_edit_86 : decode mM_edit.2.1 86 = .ok (.aload_n 0, 1) := by decide +kernel
theorem dM_edit_87 : decode mM_edit.2.1 87 = .ok (.invokevirtual 256, 3) := by decide +kernel
theorem dM_edit_90 : decode mM_edit.2.1 90 = .ok (.aload_n 0, 1) := by decide +kernel
theorem dM_edit_91 : decode mM_edit.2.1 91 = .ok (.iload_n 1, 1) := by decide +kernel
theorem dM_edit_92 : decode mM_edit.2.1 92 = .ok (.iload_n 2, 1) := by decide +kernel
theorem dM_edit_93 : decode mM_edit.2.1 93 = .ok (.iload_n 3, 1) := by decide +kernel
theorem dM_edit_94 : decode mM_edit.2.1 94 = .ok (.invokevirtual 259, 3) := by decide +kernel
theorem dM_edit_97 : decode mM_edit.2.1 97 = .ok (.istore 4, 2) := by decide +kernel
theorem dM_edit_99 : decode mM_edit.2.1 99 = .ok (.aload_n 0, 1) := by decide +kernel
theorem dM_edit_100 : decode mM_edit.2.1 100 = .ok (.invokevirtual 262, 3) := by decide +kernel
theorem dM_edit_103 : decode mM_edit.2.1 103 = .ok (.aload_n 0, 1) := by decide +kernel
theorem dM_edit_104 : decode mM_edit.2.1 104 = .ok (.invokevirtual 265, 3) := by decide +kernel
theorem dM_edit_107 : decode mM_edit.2.1 107 = .ok (.aload_n 0, 1) := by decide +kernel
theorem dM_edit_108 : decode mM_edit.2.1 108 = .ok (.getfield 106, 3) := by decide +kernel
theorem dM_edit_111 : decode mM_edit.2.1 111 = .ok (.iload 4, 2) := by decide +kernel
theorem dM_edit_113 : decode mM_edit.2.1 113 = .ok (.isub, 1) := by decide +kernel
theorem dM_edit_114 : decode mM_edit.2.1 114 = .ok (.ireturn, 1) := by decide +kernel
theorem dM_length_0 : decode mM_length.2.1 0 = .ok (.aload_n 0, 1) := by decide +kernel
theorem dM_length_1 : decode mM_length.2.1 1 = .ok (.iconst 0, 1) := by decide +kernel
theorem dM_length_2 : decode mM_length.2.1 2 = .ok (.putfield 97, 3) := by decide +kernel
theorem dM_length_5 : decode mM_length.2.1 5 = .ok (.aload_n 0, 1) := by decide +kernel
theorem dM_length_6 : decode mM_length.2.1 6 = .ok (.getfield 103, 3) := by decide +kernel
theorem dM_length_9 : decode mM_length.2.1 9 = .ok (.ireturn, 1) := by decide +kernel
theorem dM_at_0 : decode mM_at.2.1 0 = .ok (.aload_n 0, 1) := by decide +kernel
theorem dM_at_1 : decode mM_at.2.1 1 = .ok (.iconst 0, 1) := by decide +kernel
theorem dM_at_2 : decode mM_at.2.1 2 = .ok (.putfield 97, 3) := by decide +kernel
theorem dM_at_5 : decode mM_at.2.1 5 = .ok (.iload_n 1, 1) := by decide +kernel
theorem dM_at_6 : decode mM_at.2.1 6 = .ok (.ifCond .lt (20), 3) := by decide +kernel
theorem dM_at_9 : decode mM_at.2.1 9 = .ok (.iload_n 1, 1) := by decide +kernel
theorem dM_at_10 : decode mM_at.2.1 10 = .ok (.aload_n 0, 1) := by decide +kernel
theorem dM_at_11 : decode mM_at.2.1 11 = .ok (.getfield 103, 3) := by decide +kernel
theorem dM_at_14 : decode mM_at.2.1 14 = .ok (.if_icmp .ge (12), 3) := by decide +kernel
theorem dM_at_17 : decode mM_at.2.1 17 = .ok (.aload_n 0, 1) := by decide +kernel
theorem dM_at_18 : decode mM_at.2.1 18 = .ok (.getfield 7, 3) := by decide +kernel
theorem dM_at_21 : decode mM_at.2.1 21 = .ok (.iload_n 1, 1) := by decide +kernel
theorem dM_at_22 : decode mM_at.2.1 22 = .ok (.caload, 1) := by decide +kernel
theorem dM_at_23 : decode mM_at.2.1 23 = .ok (.goto (4), 3) := by decide +kernel
theorem dM_at_26 : decode mM_at.2.1 26 = .ok (.iconst 0, 1) := by decide +kernel
theorem dM_at_27 : decode mM_at.2.1 27 = .ok (.ireturn, 1) := by decide +kernel
theorem dM_tokens_0 : decode mM_tokens.2.1 0 = .ok (.aload_n 0, 1) := by decide +kernel
theorem dM_tokens_1 : decode mM_tokens.2.1 1 = .ok (.iconst 0, 1) := by decide +kernel
theorem dM_tokens_2 : decode mM_tokens.2.1 2 = .ok (.putfield 97, 3) := by decide +kernel
theorem dM_tokens_5 : decode mM_tokens.2.1 5 = .ok (.aload_n 0, 1) := by decide +kernel
theorem dM_tokens_6 : decode mM_tokens.2.1 6 = .ok (.getfield 106, 3) := by decide +kernel
theorem dM_tokens_9 : decode mM_tokens.2.1 9 = .ok (.ireturn, 1) := by decide +kernel
theorem dM_token_0 : decode mM_token.2.1 0 = .ok (.aload_n 0, 1) := by decide +kernel
theorem dM_token_1 : decode mM_token.2.1 1 = .ok (.iload_n 1, 1) := by decide +kernel
theorem dM_token_2 : decode mM_token.2.1 2 = .ok (.ifCond .lt (11), 3) := by decide +kernel
theorem dM_token_5 : decode mM_token.2.1 5 = .ok (.iload_n 1, 1) := by decide +kernel
theorem dM_token_6 : decode mM_token.2.1 6 = .ok (.aload_n 0, 1) := by decide +kernel
theorem dM_token_7 : decode mM_token.2.1 7 = .ok (.getfield 106, 3) := by decide +kernel
theorem dM_token_10 : decode mM_token.2.1 10 = .ok (.if_icmp .lt (7), 3) := by decide +kernel
theorem dM_token_13 : decode mM_token.2.1 13 = .ok (.iconst 1, 1) := by decide +kernel
theorem dM_token_14 : decode mM_token.2.1 14 = .ok (.goto (4), 3) := by decide +kernel
theorem dM_token_17 : decode mM_token.2.1 17 = .ok (.iconst 0, 1) := by decide +kernel
theorem dM_token_18 : decode mM_token.2.1 18 = .ok (.putfield 97, 3) := by decide +kernel
theorem dM_token_21 : decode mM_token.2.1 21 = .ok (.aload_n 0, 1) := by decide +kernel
theorem dM_token_22 : decode mM_token.2.1 22 = .ok (.getfield 97, 3) := by decide +kernel
theorem dM_token_25 : decode mM_token.2.1 25 = .ok (.ifCond .le (7), 3) := by decide +kernel
theorem dM_token_28 : decode mM_token.2.1 28 = .ok (.iconst 0, 1) := by decide +kernel
theorem dM_token_29 : decode mM_token.2.1 29 = .ok (.goto (30), 3) := by decide +kernel
theorem dM_token_32 : decode mM_token.2.1 32 = .ok (.aload_n 0, 1) := by decide +kernel
theorem dM_token_33 : decode mM_token.2.1 33 = .ok (.getfield 16, 3) := by decide +kernel
theorem dM_token_36 : decode mM_token.2.1 36 = .ok (.iload_n 1, 1) := by decide +kernel
theorem dM_token_37 : decode mM_token.2.1 37 = .ok (.iaload, 1) := by decide +kernel
theorem dM_token_38 : decode mM_token.2.1 38 = .ok (.sipush (2048), 3) := by decide +kernel
theorem dM_token_41 : decode mM_token.2.1 41 = .ok (.imul, 1) := by decide +kernel
theorem dM_token_42 : decode mM_token.2.1 42 = .ok (.aload_n 0, 1) := by decide +kernel
theorem dM_token_43 : decode mM_token.2.1 43 = .ok (.getfield 20, 3) := by decide +kernel
theorem dM_token_46 : decode mM_token.2.1 46 = .ok (.iload_n 1, 1) := by decide +kernel
theorem dM_token_47 : decode mM_token.2.1 47 = .ok (.iaload, 1) := by decide +kernel
theorem dM_token_48 : decode mM_token.2.1 48 = .ok (.bipush (8), 2) := by decide +kernel
theorem dM_token_50 : decode mM_token.2.1 50 = .ok (.imul, 1) := by decide +kernel
theorem dM_token_51 : decode mM_token.2.1 51 = .ok (.iadd, 1) := by decide +kernel
theorem dM_token_52 : decode mM_token.2.1 52 = .ok (.aload_n 0, 1) := by decide +kernel
theorem dM_token_53 : decode mM_token.2.1 53 = .ok (.getfield 23, 3) := by decide +kernel
theorem dM_token_56 : decode mM_token.2.1 56 = .ok (.iload_n 1, 1) := by decide +kernel
theorem dM_token_57 : decode mM_token.2.1 57 = .ok (.iaload, 1) := by decide +kernel
theorem dM_token_58 : decode mM_token.2.1 58 = .ok (.iadd, 1) := by decide +kernel
theorem dM_token_59 : decode mM_token.2.1 59 = .ok (.ireturn, 1) := by decide +kernel
theorem dM_fault_0 : decode mM_fault.2.1 0 = .ok (.aload_n 0, 1) := by decide +kernel
theorem dM_fault_1 : decode mM_fault.2.1 1 = .ok (.iconst 0, 1) := by decide +kernel
theorem dM_fault_2 : decode mM_fault.2.1 2 = .ok (.putfield 97, 3) := by decide +kernel
theorem dM_fault_5 : decode mM_fault.2.1 5 = .ok (.aload_n 0, 1) := by decide +kernel
theorem dM_fault_6 : decode mM_fault.2.1 6 = .ok (.getfield 69, 3) := by decide +kernel
theorem dM_fault_9 : decode mM_fault.2.1 9 = .ok (.ireturn, 1) := by decide +kernel
theorem dM_items_0 : decode mM_items.2.1 0 = .ok (.aload_n 0, 1) := by decide +kernel
theorem dM_items_1 : decode mM_items.2.1 1 = .ok (.iconst 0, 1) := by decide +kernel
theorem dM_items_2 : decode mM_items.2.1 2 = .ok (.putfield 97, 3) := by decide +kernel
theorem dM_items_5 : decode mM_items.2.1 5 = .ok (.aload_n 0, 1) := by decide +kernel
theorem dM_items_6 : decode mM_items.2.1 6 = .ok (.getfield 146, 3) := by decide +kernel
theorem dM_items_9 : decode mM_items.2.1 9 = .ok (.ireturn, 1) := by decide +kernel
theorem dM_kept_0 : decode mM_kept.2.1 0 = .ok (.aload_n 0, 1) := by decide +kernel
theorem dM_kept_1 : decode mM_kept.2.1 1 = .ok (.iconst 0, 1) := by decide +kernel
theorem dM_kept_2 : decode mM_kept.2.1 2 = .ok (.putfield 97, 3) := by decide +kernel
theorem dM_kept_5 : decode mM_kept.2.1 5 = .ok (.aload_n 0, 1) := by decide +kernel
theorem dM_kept_6 : decode mM_kept.2.1 6 = .ok (.getfield 238, 3) := by decide +kernel
theorem dM_kept_9 : decode mM_kept.2.1 9 = .ok (.ireturn, 1) := by decide +kernel
theorem dM_isItem_0 : decode mM_isItem.2.1 0 = .ok (.iload_n 1, 1) := by decide +kernel
theorem dM_isItem_1 : decode mM_isItem.2.1 1 = .ok (.ifCond .lt (15), 3) := by decide +kernel
theorem dM_isItem_4 : decode mM_isItem.2.1 4 = .ok (.iload_n 1, 1) := by decide +kernel
theorem dM_isItem_5 : decode mM_isItem.2.1 5 = .ok (.aload_n 0, 1) := by decide +kernel
theorem dM_isItem_6 : decode mM_isItem.2.1 6 = .ok (.getfield 146, 3) := by decide +kernel
theorem dM_isItem_9 : decode mM_isItem.2.1 9 = .ok (.if_icmp .ge (7), 3) := by decide +kernel
theorem dM_isItem_12 : decode mM_isItem.2.1 12 = .ok (.iconst 1, 1) := by decide +kernel
theorem dM_isItem_13 : decode mM_isItem.2.1 13 = .ok (.goto (4), 3) := by decide +kernel
theorem dM_isItem_16 : decode mM_isItem.2.1 16 = .ok (.iconst 0, 1) := by decide +kernel
theorem dM_isItem_17 : decode mM_isItem.2.1 17 = .ok (.ireturn, 1) := by decide +kernel
theorem dM_number_0 : decode mM_number.2.1 0 = .ok (.aload_n 0, 1) := by decide +kernel
theorem dM_number_1 : decode mM_number.2.1 1 = .ok (.iconst 0, 1) := by decide +kernel
theorem dM_number_2 : decode mM_number.2.1 2 = .ok (.putfield 97, 3) := by decide +kernel
theorem dM_number_5 : decode mM_number.2.1 5 = .ok (.aload_n 0, 1) := by decide +kernel
theorem dM_number_6 : decode mM_number.2.1 6 = .ok (.iload_n 1, 1) := by decide +kernel
theorem dM_number_7 : decode mM_number.2.1 7 = .ok (.invokevirtual 268, 3) := by decide +kernel
theorem dM_number_10 : decode mM_number.2.1 10 = .ok (.ifCond .eq (12), 3) := by decide +kernel
theorem dM_number_13 : decode mM_number.2.1 13 = .ok (.aload_n 0, 1) := by decide +kernel
theorem dM_number_14 : decode mM_number.2.1 14 = .ok (.getfield 54, 3) := by decide +kernel
theorem dM_number_17 : decode mM_number.2.1 17 = .ok (.iload_n 1, 1) := by decide +kernel
theorem dM_number_18 : decode mM_number.2.1 18 = .ok (.iaload, 1) := by decide +kernel
theorem dM_number_19 : decode mM_number.2.1 19 = .ok (.goto (4), 3) := by decide +kernel
theorem dM_number_22 : decode mM_number.2.1 22 = .ok (.iconst (-1), 1) := by decide +kernel
theorem dM_number_23 : decode mM_number.2.1 23 = .ok (.ireturn, 1) := by decide +kernel
theorem dM_which_0 : decode mM_which.2.1 0 = .ok (.aload_n 0, 1) := by decide +kernel
theorem dM_which_1 : decode mM_which.2.1 1 = .ok (.iconst 0, 1) := by decide +kernel
theorem dM_which_2 : decode mM_which.2.1 2 = .ok (.putfield 97, 3) := by decide +kernel
theorem dM_which_5 : decode mM_which.2.1 5 = .ok (.iconst (-1), 1) := by decide +kernel
theorem dM_which_6 : decode mM_which.2.1 6 = .ok (.istore_n 2, 1) := by decide +kernel
theorem dM_which_7 : decode mM_which.2.1 7 = .ok (.iconst 0, 1) := by decide +kernel
theorem dM_which_8 : decode mM_which.2.1 8 = .ok (.istore_n 3, 1) := by decide +kernel
theorem dM_which_9 : decode mM_which.2.1 9 = .ok (.iload_n 3, 1) := by decide +kernel
theorem dM_which_10 : decode mM_which.2.1 10 = .ok (.aload_n 0, 1) := by decide +kernel
theorem dM_which_11 : decode mM_which.2.1 11 = .ok (.getfield 146, 3) := by decide +kernel
theorem dM_which_14 : decode mM_which.2.1 14 = .ok (.if_icmp .ge (25), 3) := by decide +kernel
theorem dM_which_17 : decode mM_which.2.1 17 = .ok (.aload_n 0, 1) := by decide +kernel
theorem dM_which_18 : decode mM_which.2.1 18 = .ok (.getfield 54, 3) := by decide +kernel
theorem dM_which_21 : decode mM_which.2.1 21 = .ok (.iload_n 3, 1) := by decide +kernel
theorem dM_which_22 : decode mM_which.2.1 22 = .ok (.iaload, 1) := by decide +kernel
theorem dM_which_23 : decode mM_which.2.1 23 = .ok (.iload_n 1, 1) := by decide +kernel
theorem dM_which_24 : decode mM_which.2.1 24 = .ok (.if_icmp .ne (7), 3) := by decide +kernel
theorem dM_which_27 : decode mM_which.2.1 27 = .ok (.iload_n 3, 1) := by decide +kernel
theorem dM_which_28 : decode mM_which.2.1 28 = .ok (.goto (4), 3) := by decide +kernel
theorem dM_which_31 : decode mM_which.2.1 31 = .ok (.iload_n 2, 1) := by decide +kernel
theorem dM_which_32 : decode mM_which.2.1 32 = .ok (.istore_n 2, 1) := by decide +kernel
theorem dM_which_33 : decode mM_which.2.1 33 = .ok (.iinc 3 (1), 3) := by decide +kernel
theorem dM_which_36 : decode mM_which.2.1 36 = .ok (.goto (-27), 3) := by decide +kernel
theorem dM_which_39 : decode mM_which.2.1 39 = .ok (.iload_n 2, 1) := by decide +kernel
theorem dM_which_40 : decode mM_which.2.1 40 = .ok (.ireturn, 1) := by decide +kernel
theorem dM_begin_0 : decode mM_begin.2.1 0 = .ok (.aload_n 0, 1) := by decide +kernel
theorem dM_begin_1 : decode mM_begin.2.1 1 = .ok (.aload_n 0, 1) := by decide +kernel
theorem dM_begin_2 : decode mM_begin.2.1 2 = .ok (.iload_n 1, 1) := by decide +kernel
theorem dM_begin_3 : decode mM_begin.2.1 3 = .ok (.invokevirtual 268, 3) := by decide +kernel
theorem dM_begin_6 : decode mM_begin.2.1 6 = .ok (.ifCond .eq (7), 3) := by decide +kernel
theorem dM_begin_9 : decode mM_begin.2.1 9 = .ok (.iconst 0, 1) := by decide +kernel
theorem dM_begin_10 : decode mM_begin.2.1 10 = .ok (.goto (4), 3) := by decide +kernel
theorem dM_begin_13 : decode mM_begin.2.1 13 = .ok (.iconst 1, 1) := by decide +kernel
theorem dM_begin_14 : decode mM_begin.2.1 14 = .ok (.putfield 97, 3) := by decide +kernel
theorem dM_begin_17 : decode mM_begin.2.1 17 = .ok (.aload_n 0, 1) := by decide +kernel
theorem dM_begin_18 : decode mM_begin.2.1 18 = .ok (.getfield 97, 3) := by decide +kernel
theorem dM_begin_21 : decode mM_begin.2.1 21 = .ok (.ifCond .le (7), 3) := by decide +kernel
theorem dM_begin_24 : decode mM_begin.2.1 24 = .ok (.iconst 0, 1) := by decide +kernel
theorem dM_begin_25 : decode mM_begin.2.1 25 = .ok (.goto (14), 3) := by decide +kernel
theorem dM_begin_28 : decode mM_begin.2.1 28 = .ok (.aload_n 0, 1) := by decide +kernel
theorem dM_begin_29 : decode mM_begin.2.1 29 = .ok (.getfield 16, 3) := by decide +kernel
theorem dM_begin_32 : decode mM_begin.2.1 32 = .ok (.aload_n 0, 1) := by decide +kernel
theorem dM_begin_33 : decode mM_begin.2.1 33 = .ok (.getfield 38, 3) := by decide +kernel
theorem dM_begin_36 : decode mM_begin.2.1 36 = .ok (.iload_n 1, 1) := by decide +kernel
theorem dM_begin_37 : decode mM_begin.2.1 37 = .ok (.iaload, 1) := by decide +kernel
theorem dM_begin_38 : decode mM_begin.2.1 38 = .ok (.iaload, 1) := by decide +kernel
theorem dM_begin_39 : decode mM_begin.2.1 39 = .ok (.ireturn, 1) := by decide +kernel
theorem dM_end_0 : decode mM_end.2.1 0 = .ok (.aload_n 0, 1) := by decide +kernel
theorem dM_end_1 : decode mM_end.2.1 1 = .ok (.aload_n 0, 1) := by decide +kernel
theorem dM_end_2 : decode mM_end.2.1 2 = .ok (.iload_n 1, 1) := by decide +kernel
theorem dM_end_3 : decode mM_end.2.1 3 = .ok (.invokevirtual 268, 3) := by decide +kernel
theorem dM_end_6 : decode mM_end.2.1 6 = .ok (.ifCond .eq (7), 3) := by decide +kernel
theorem dM_end_9 : decode mM_end.2.1 9 = .ok (.iconst 0, 1) := by decide +kernel
theorem dM_end_10 : decode mM_end.2.1 10 = .ok (.goto (4), 3) := by decide +kernel
theorem dM_end_13 : decode mM_end.2.1 13 = .ok (.iconst 1, 1) := by decide +kernel
theorem dM_end_14 : decode mM_end.2.1 14 = .ok (.putfield 97, 3) := by decide +kernel
theorem dM_end_17 : decode mM_end.2.1 17 = .ok (.aload_n 0, 1) := by decide +kernel
theorem dM_end_18 : decode mM_end.2.1 18 = .ok (.getfield 97, 3) := by decide +kernel
theorem dM_end_21 : decode mM_end.2.1 21 = .ok (.ifCond .le (7), 3) := by decide +kernel
theorem dM_end_24 : decode mM_end.2.1 24 = .ok (.iconst 0, 1) := by decide +kernel
theorem dM_end_25 : decode mM_end.2.1 25 = .ok (.goto (26), 3) := by decide +kernel
theorem dM_end_28 : decode mM_end.2.1 28 = .ok (.aload_n 0, 1) := by decide +kernel
theorem dM_end_29 : decode mM_end.2.1 29 = .ok (.getfield 16, 3) := by decide +kernel
theorem dM_end_32 : decode mM_end.2.1 32 = .ok (.aload_n 0, 1) := by decide +kernel
theorem dM_end_33 : decode mM_end.2.1 33 = .ok (.getfield 41, 3) := by decide +kernel
theorem dM_end_36 : decode mM_end.2.1 36 = .ok (.iload_n 1, 1) := by decide +kernel
theorem dM_end_37 : decode mM_end.2.1 37 = .ok (.iaload, 1) := by decide +kernel
theorem dM_end_38 : decode mM_end.2.1 38 = .ok (.iaload, 1) := by decide +kernel
theorem dM_end_39 : decode mM_end.2.1 39 = .ok (.aload_n 0, 1) := by decide +kernel
theorem dM_end_40 : decode mM_end.2.1 40 = .ok (.getfield 20, 3) := by decide +kernel
theorem dM_end_43 : decode mM_end.2.1 43 = .ok (.aload_n 0, 1) := by decide +kernel
theorem dM_end_44 : decode mM_end.2.1 44 = .ok (.getfield 41, 3) := by decide +kernel
theorem dM_end_47 : decode mM_end.2.1 47 = .ok (.iload_n 1, 1) := by decide +kernel
theorem dM_end_48 : decode mM_end.2.1 48 = .ok (.iaload, 1) := by decide +kernel
theorem dM_end_49 : decode mM_end.2.1 49 = .ok (.iaload, 1) := by decide +kernel
theorem dM_end_50 : decode mM_end.2.1 50 = .ok (.iadd, 1) := by decide +kernel
theorem dM_end_51 : decode mM_end.2.1 51 = .ok (.ireturn, 1) := by decide +kernel
theorem dM_level_0 : decode mM_level.2.1 0 = .ok (.aload_n 0, 1) := by decide +kernel
theorem dM_level_1 : decode mM_level.2.1 1 = .ok (.iconst 0, 1) := by decide +kernel
theorem dM_level_2 : decode mM_level.2.1 2 = .ok (.putfield 97, 3) := by decide +kernel
theorem dM_level_5 : decode mM_level.2.1 5 = .ok (.aload_n 0, 1) := by decide +kernel
theorem dM_level_6 : decode mM_level.2.1 6 = .ok (.iload_n 1, 1) := by decide +kernel
theorem dM_level_7 : decode mM_level.2.1 7 = .ok (.invokevirtual 268, 3) := by decide +kernel
theorem dM_level_10 : decode mM_level.2.1 10 = .ok (.ifCond .eq (12), 3) := by decide +kernel
theorem dM_level_13 : decode mM_level.2.1 13 = .ok (.aload_n 0, 1) := by decide +kernel
theorem dM_level_14 : decode mM_level.2.1 14 = .ok (.getfield 44, 3) := by decide +kernel
theorem dM_level_17 : decode mM_level.2.1 17 = .ok (.iload_n 1, 1) := by decide +kernel
theorem dM_level_18 : decode mM_level.2.1 18 = .ok (.iaload, 1) := by decide +kernel
theorem dM_level_19 : decode mM_level.2.1 19 = .ok (.goto (4), 3) := by decide +kernel
theorem dM_level_22 : decode mM_level.2.1 22 = .ok (.iconst (-1), 1) := by decide +kernel
theorem dM_level_23 : decode mM_level.2.1 23 = .ok (.ireturn, 1) := by decide +kernel
theorem dM_value_0 : decode mM_value.2.1 0 = .ok (.aload_n 0, 1) := by decide +kernel
theorem dM_value_1 : decode mM_value.2.1 1 = .ok (.aload_n 0, 1) := by decide +kernel
theorem dM_value_2 : decode mM_value.2.1 2 = .ok (.iload_n 1, 1) := by decide +kernel
theorem dM_value_3 : decode mM_value.2.1 3 = .ok (.invokevirtual 268, 3) := by decide +kernel
theorem dM_value_6 : decode mM_value.2.1 6 = .ok (.ifCond .eq (7), 3) := by decide +kernel
theorem dM_value_9 : decode mM_value.2.1 9 = .ok (.iconst 0, 1) := by decide +kernel
theorem dM_value_10 : decode mM_value.2.1 10 = .ok (.goto (4), 3) := by decide +kernel
theorem dM_value_13 : decode mM_value.2.1 13 = .ok (.iconst 1, 1) := by decide +kernel
theorem dM_value_14 : decode mM_value.2.1 14 = .ok (.putfield 97, 3) := by decide +kernel
theorem dM_value_17 : decode mM_value.2.1 17 = .ok (.aload_n 0, 1) := by decide +kernel
theorem dM_value_18 : decode mM_value.2.1 18 = .ok (.getfield 97, 3) := by decide +kernel
theorem dM_value_21 : decode mM_value.2.1 21 = .ok (.ifCond .le (7), 3) := by decide +kernel
theorem dM_value_24 : decode mM_value.2.1 24 = .ok (.iconst 0, 1) := by decide +kernel
theorem dM_value_25 : decode mM_value.2.1 25 = .ok (.goto (9), 3) := by decide +kernel
theorem dM_value_28 : decode mM_value.2.1 28 = .ok (.aload_n 0, 1) := by decide +kernel
theorem dM_value_29 : decode mM_value.2.1 29 = .ok (.getfield 57, 3) := by decide +kernel
theorem dM_value_32 : decode mM_value.2.1 32 = .ok (.iload_n 1, 1) := by decide +kernel
theorem dM_value_33 : decode mM_value.2.1 33 = .ok (.iaload, 1) := by decide +kernel
theorem dM_value_34 : decode mM_value.2.1 34 = .ok (.ireturn, 1) := by decide +kernel
