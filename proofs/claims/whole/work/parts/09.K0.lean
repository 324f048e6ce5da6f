theorem dK_init_0 : decode mK_init.2.1 0 = .ok (.aload_n 0, 1) := by decide +kernel
theorem dK_init_1 : decode mK_init.2.1 1 = .ok (.invokespecial 1, 3) := by decide +kernel
theorem dK_init_4 : decode mK_init.2.1 4 = .ok (.aload_n 0, 1) := by decide +kernel
theorem dK_init_5 : decode mK_init.2.1 5 = .ok (.bipush (40), 2) := by decide +kernel
theorem dK_init_7 : decode mK_init.2.1 7 = .ok (.newarray .char, 2) := by decide +kernel
theorem dK_init_9 : decode mK_init.2.1 9 = .ok (.putfield 9, 3) := by decide +kernel
theorem dK_init_12 : decode mK_init.2.1 12 = .ok (.aload_n 0, 1) := by decide +kernel
theorem dK_init_13 : decode mK_init.2.1 13 = .ok (.new 13, 3) := by decide +kernel
theorem dK_init_16 : decode mK_init.2.1 16 = .ok (.dup, 1) := by decide +kernel
theorem dK_init_17 : decode mK_init.2.1 17 = .ok (.invokespecial 15, 3) := by decide +kernel
theorem dK_init_20 : decode mK_init.2.1 20 = .ok (.putfield 16, 3) := by decide +kernel
theorem dK_init_23 : decode mK_init.2.1 23 = .ok (.aload_n 0, 1) := by decide +kernel
theorem dK_init_24 : decode mK_init.2.1 24 = .ok (.new 13, 3) := by decide +kernel
theorem dK_init_27 : decode mK_init.2.1 27 = .ok (.dup, 1) := by decide +kernel
theorem dK_init_28 : decode mK_init.2.1 28 = .ok (.invokespecial 15, 3) := by decide +kernel
theorem dK_init_31 : decode mK_init.2.1 31 = .ok (.putfield 20, 3) := by decide +kernel
theorem dK_init_34 : decode mK_init.2.1 34 = .ok (.aload_n 0, 1) := by decide +kernel
theorem dK_init_35 : decode mK_init.2.1 35 = .ok (.sipush (160), 3) := by decide +kernel
theorem dK_init_38 : decode mK_init.2.1 38 = .ok (.newarray .int, 2) := by decide +kernel
theorem dK_init_40 : decode mK_init.2.1 40 = .ok (.putfield 23, 3) := by decide +kernel
theorem dK_init_43 : decode mK_init.2.1 43 = .ok (.return_, 1) := by decide +kernel
theorem dK_type_0 : decode mK_type.2.1 0 = .ok (.iload_n 1, 1) := by decide +kernel
theorem dK_type_1 : decode mK_type.2.1 1 = .ok (.bipush (10), 2) := by decide +kernel
theorem dK_type_3 : decode mK_type.2.1 3 = .ok (.if_icmp .eq (15), 3) := by decide +kernel
theorem dK_type_6 : decode mK_type.2.1 6 = .ok (.iload_n 1, 1) := by decide +kernel
theorem dK_type_7 : decode mK_type.2.1 7 = .ok (.bipush (32), 2) := by decide +kernel
theorem dK_type_9 : decode mK_type.2.1 9 = .ok (.if_icmp .lt (13), 3) := by decide +kernel
theorem dK_type_12 : decode mK_type.2.1 12 = .ok (.iload_n 1, 1) := by decide +kernel
theorem dK_type_13 : decode mK_type.2.1 13 = .ok (.bipush (126), 2) := by decide +kernel
theorem dK_type_15 : decode mK_type.2.1 15 = .ok (.if_icmp .gt (7), 3) := by decide +kernel
theorem dK_type_18 : decode mK_type.2.1 18 = .ok (.iconst 1, 1) := by decide +kernel
theorem dK_type_19 : decode mK_type.2.1 19 = .ok (.goto (4), 3) := by decide +kernel
theorem dK_type_22 : decode mK_type.2.1 22 = .ok (.iconst 0, 1) := by decide +kernel
theorem dK_type_23 : decode mK_type.2.1 23 = .ok (.istore_n 2, 1) := by decide +kernel
theorem dK_type_24 : decode mK_type.2.1 24 = .ok (.iload_n 2, 1) := by decide +kernel
theorem dK_type_25 : decode mK_type.2.1 25 = .ok (.ifCond .eq (12), 3) := by decide +kernel
theorem dK_type_28 : decode mK_type.2.1 28 = .ok (.aload_n 0, 1) := by decide +kernel
theorem dK_type_29 : decode mK_type.2.1 29 = .ok (.getfield 27, 3) := by decide +kernel
theorem dK_type_32 : decode mK_type.2.1 32 = .ok (.bipush (40), 2) := by decide +kernel
theorem dK_type_34 : decode mK_type.2.1 34 = .ok (.if_icmp .lt (5), 3) := by decide +kernel
theorem dK_type_37 : decode mK_type.2.1 37 = .ok (.iconst 0, 1) := by decide +kernel
theorem dK_type_38 : decode mK_type.2.1 38 = .ok (.ireturn, 1) := by decide +kernel
theorem dK_type_39 : decode mK_type.2.1 39 = .ok (.aload_n 0, 1) := by decide +kernel
theorem dK_type_40 : decode mK_type.2.1 40 = .ok (.getfield 9, 3) := by decide +kernel
theorem dK_type_43 : decode mK_type.2.1 43 = .ok (.aload_n 0, 1) := by decide +kernel
theorem dK_type_44 : decode mK_type.2.1 44 = .ok (.getfield 27, 3) := by decide +kernel
theorem dK_type_47 : decode mK_type.2.1 47 = .ok (.iload_n 1, 1) := by decide +kernel
theorem dK_type_48 : decode mK_type.2.1 48 = .ok (.castore, 1) := by decide +kernel
theorem dK_type_49 : decode mK_type.2.1 49 = .ok (.aload_n 0, 1) := by decide +kernel
theorem dK_type_50 : decode mK_type.2.1 50 = .ok (.dup, 1) := by decide +kernel
theorem dK_type_51 : decode mK_type.2.1 51 = .ok (.getfield 27, 3) := by decide +kernel
theorem dK_type_54 : decode mK_type.2.1 54 = .ok (.iconst 1, 1) := by decide +kernel
theorem dK_type_55 : decode mK_type.2.1 55 = .ok (.iadd, 1) := by decide +kernel
theorem dK_type_56 : decode mK_type.2.1 56 = .ok (.putfield 27, 3) := by decide +kernel
theorem dK_type_59 : decode mK_type.2.1 59 = .ok (.iconst 1, 1) := by decide +kernel
theorem dK_type_60 : decode mK_type.2.1 60 = .ok (.ireturn, 1) := by decide +kernel
theorem dK_wipe_0 : decode mK_wipe.2.1 0 = .ok (.aload_n 0, 1) := by decide +kernel
theorem dK_wipe_1 : decode mK_wipe.2.1 1 = .ok (.getfield 27, 3) := by decide +kernel
theorem dK_wipe_4 : decode mK_wipe.2.1 4 = .ok (.istore_n 1, 1) := by decide +kernel
theorem dK_wipe_5 : decode mK_wipe.2.1 5 = .ok (.aload_n 0, 1) := by decide +kernel
theorem dK_wipe_6 : decode mK_wipe.2.1 6 = .ok (.iconst 0, 1) := by decide +kernel
theorem dK_wipe_7 : decode mK_wipe.2.1 7 = .ok (.putfield 27, 3) := by decide +kernel
theorem dK_wipe_10 : decode mK_wipe.2.1 10 = .ok (.iload_n 1, 1) := by decide +kernel
theorem dK_wipe_11 : decode mK_wipe.2.1 11 = .ok (.ireturn, 1) := by decide +kernel
theorem dK_edit_0 : decode mK_edit.2.1 0 = .ok (.aload_n 0, 1) := by decide +kernel
theorem dK_edit_1 : decode mK_edit.2.1 1 = .ok (.getfield 16, 3) := by decide +kernel
theorem dK_edit_4 : decode mK_edit.2.1 4 = .ok (.getfield 31, 3) := by decide +kernel
theorem dK_edit_7 : decode mK_edit.2.1 7 = .ok (.getfield 35, 3) := by decide +kernel
theorem dK_edit_10 : decode mK_edit.2.1 10 = .ok (.istore_n 3, 1) := by decide +kernel
theorem dK_edit_11 : decode mK_edit.2.1 11 = .ok (.iload_n 1, 1) := by decide +kernel
theorem dK_edit_12 : decode mK_edit.2.1 12 = .ok (.ifCond .lt (19), 3) := by decide +kernel
theorem dK_edit_15 : decode mK_edit.2.1 15 = .ok (.iload_n 1, 1) := by decide +kernel
theorem dK_edit_16 : decode mK_edit.2.1 16 = .ok (.iload_n 3, 1) := by decide +kernel
theorem dK_edit_17 : decode mK_edit.2.1 17 = .ok (.if_icmp .gt (14), 3) := by decide +kernel
theorem dK_edit_20 : decode mK_edit.2.1 20 = .ok (.iload_n 2, 1) := by decide +kernel
theorem dK_edit_21 : decode mK_edit.2.1 21 = .ok (.ifCond .lt (10), 3) := by decide +kernel
theorem dK_edit_24 : decode mK_edit.2.1 24 = .ok (.iload_n 2, 1) := by decide +kernel
theorem dK_edit_25 : decode mK_edit.2.1 25 = .ok (.iload_n 3, 1) := by decide +kernel
theorem dK_edit_26 : decode mK_edit.2.1 26 = .ok (.iload_n 1, 1) := by decide +kernel
theorem dK_edit_27 : decode mK_edit.2.1 27 = .ok (.isub, 1) := by decide +kernel
theorem dK_edit_28 : decode mK_edit.2.1 28 = .ok (.if_icmp .le (11), 3) := by decide +kernel
theorem dK_edit_31 : decode mK_edit.2.1 31 = .ok (.new 40, 3) := by decide +kernel
theorem dK_edit_34 : decode mK_edit.2.1 34 = .ok (.dup, 1) := by decide +kernel
theorem dK_edit_35 : decode mK_edit.2.1 35 = .ok (.invokespecial 42, 3) := by decide +kernel
theorem dK_edit_38 : decode mK_edit.2.1 38 = .ok (.athrow, 1) := by decide +kernel
theorem dK_edit_39 : decode mK_edit.2.1 39 = .ok (.iload_n 3, 1) := by decide +kernel
theorem dK_edit_40 : decode mK_edit.2.1 40 = .ok (.iload_n 2, 1) := by decide +kernel
theorem dK_edit_41 : decode mK_edit.2.1 41 = .ok (.isub, 1) := by decide +kernel
theorem dK_edit_42 : decode mK_edit.2.1 42 = .ok (.aload_n 0, 1) := by decide +kernel
theorem dK_edit_43 : decode mK_edit.2.1 43 = .ok (.getfield 27, 3) := by decide +kernel
theorem dK_edit_46 : decode mK_edit.2.1 46 = .ok (.iadd, 1) := by decide +kernel
theorem dK_edit_47 : decode mK_edit.2.1 47 = .ok (.sipush (160), 3) := by decide +kernel
theorem dK_edit_50 : decode mK_edit.2.1 50 = .ok (.if_icmp .le (11), 3) := by decide +kernel
theorem dK_edit_53 : decode mK_edit.2.1 53 = .ok (.new 43, 3) := by decide +kernel
theorem dK_edit_56 : decode mK_edit.2.1 56 = .ok (.dup, 1) := by decide +kernel
theorem dK_edit_57 : decode mK_edit.2.1 57 = .ok (.invokespecial 45, 3) := by decide +kernel
theorem dK_edit_60 : decode mK_edit.2.1 60 = .ok (.athrow, 1) := by decide +kernel
theorem dK_edit_61 : decode mK_edit.2.1 61 = .ok (.aload_n 0, 1) := by decide +kernel
theorem dK_edit_62 : decode mK_edit.2.1 62 = .ok (.getfield 16, 3) := by decide +kernel
theorem dK_edit_65 : decode mK_edit.2.1 65 = .ok (.astore 4, 2) := by decide +kernel
theorem dK_edit_67 : decode mK_edit.2.1 67 = .ok (.aload_n 0, 1) := by decide +kernel
theorem dK_edit_68 : decode mK_edit.2.1 68 = .ok (.aload_n 0, 1) := by decide +kernel
theorem dK_edit_69 : decode mK_edit.2.1 69 = .ok (.getfield 20, 3) := by decide +kernel
theorem dK_edit_72 : decode mK_edit.2.1 72 = .ok (.putfield 16, 3) := by decide +kernel
theorem dK_edit_75 : decode mK_edit.2.1 75 = .ok (.aload_n 0, 1) := by decide +kernel
theorem dK_edit_76 : decode mK_edit.2.1 76 = .ok (.aload 4, 2) := by decide +kernel
theorem dK_edit_78 : decode mK_edit.2.1 78 = .ok (.putfield 20, 3) := by decide +kernel
theorem dK_edit_81 : decode mK_edit.2.1 81 = .ok (.aload_n 0, 1) := by decide +kernel
theorem dK_edit_82 : decode mK_edit.2.1 82 = .ok (.getfield 16, 3) := by decide +kernel
theorem dK_edit_85 : decode mK_edit.2.1 85 = .ok (.getfield 31, 3) := by decide +kernel
theorem dK_edit_88 : decode mK_edit.2.1 88 = .ok (.aload 4, 2) := by decide +kernel
theorem dK_edit_90 : decode mK_edit.2.1 90 = .ok (.getfield 31, 3) := by decide +kernel
theorem dK_edit_93 : decode mK_edit.2.1 93 = .ok (.iload_n 1, 1) := by decide +kernel
theorem dK_edit_94 : decode mK_edit.2.1 94 = .ok (.iload_n 2, 1) := by decide +kernel
theorem dK_edit_95 : decode mK_edit.2.1 95 = .ok (.aload_n 0, 1) := by decide +kernel
theorem dK_edit_96 : decode mK_edit.2.1 96 = .ok (.getfield 9, 3) := by decide +kernel
theorem dK_edit_99 : decode mK_edit.2.1 99 = .ok (.aload_n 0, 1) := by decide +kernel
theorem dK_edit_100 : decode mK_edit.2.1 100 = .ok (.getfield 27, 3) := by decide +kernel
theorem dK_edit_103 : decode mK_edit.2.1 103 = .ok (.invokevirtual 46, 3) := by decide +kernel
theorem dK_edit_106 : decode mK_edit.2.1 106 = .ok (.aload_n 0, 1) := by decide +kernel
theorem dK_edit_107 : decode mK_edit.2.1 107 = .ok (.getfield 16, 3) := by decide +kernel
theorem dK_edit_110 : decode mK_edit.2.1 110 = .ok (.getfield 31, 3) := by decide +kernel
theorem dK_edit_113 : decode mK_edit.2.1 113 = .ok (.invokevirtual 50, 3) := by decide +kernel
theorem dK_edit_116 : decode mK_edit.2.1 116 = .ok (.aload_n 0, 1) := by decide +kernel
theorem dK_edit_117 : decode mK_edit.2.1 117 = .ok (.getfield 16, 3) := by decide +kernel
theorem dK_edit_120 : decode mK_edit.2.1 120 = .ok (.invokevirtual 53, 3) := by decide +kernel
theorem dK_edit_123 : decode mK_edit.2.1 123 = .ok (.aload_n 0, 1) := by decide +kernel
theorem dK_edit_124 : decode mK_edit.2.1 124 = .ok (.iload_n 1, 1) := by decide +kernel
theorem dK_edit_125 : decode mK_edit.2.1 125 = .ok (.iload_n 2, 1) := by decide +kernel
theorem dK_edit_126 : decode mK_edit.2.1 126 = .ok (.invokevirtual 56, 3) := by decide +kernel
theorem dK_edit_129 : decode mK_edit.2.1 129 = .ok (.istore 5, 2) := by decide +kernel
theorem dK_edit_131 : decode mK_edit.2.1 131 = .ok (.aload_n 0, 1) := by decide +kernel
theorem dK_edit_132 : decode mK_edit.2.1 132 = .ok (.invokevirtual 60, 3) := by decide +kernel
theorem dK_edit_135 : decode mK_edit.2.1 135 = .ok (.aload_n 0, 1) := by decide +kernel
theorem dK_edit_136 : decode mK_edit.2.1 136 = .ok (.iconst 0, 1) := by decide +kernel
theorem dK_edit_137 : decode mK_edit.2.1 137 = .ok (.putfield 27, 3) := by decide +kernel
theorem dK_edit_140 : decode mK_edit.2.1 140 = .ok (.aload_n 0, 1) := by decide +kernel
theorem dK_edit_141 : decode mK_edit.2.1 141 = .ok (.getfield 16, 3) := by decide +kernel
theorem dK_edit_144 : decode mK_edit.2.1 144 = .ok (.getfield 31, 3) := by decide +kernel
theorem dK_edit_147 : decode mK_edit.2.1 147 = .ok (.getfield 63, 3) := by decide +kernel
theorem dK_edit_150 : decode mK_edit.2.1 150 = .ok (.iload 5, 2) := by decide +kernel
theorem dK_edit_152 : decode mK_edit.2.1 152 = .ok (.isub, 1) := by decide +kernel
theorem dK_edit_153 : decode mK_edit.2.1 153 = .ok (.ireturn, 1) := by decide +kernel
theorem dK_length_0 : decode mK_length.2.1 0 = .ok (.aload_n 0, 1) := by decide +kernel
theorem dK_length_1 : decode mK_length.2.1 1 = .ok (.getfield 16, 3) := by decide +kernel
theorem dK_length_4 : decode mK_length.2.1 4 = .ok (.getfield 31, 3) := by decide +kernel
theorem dK_length_7 : decode mK_length.2.1 7 = .ok (.getfield 35, 3) := by decide +kernel
theorem dK_length_10 : decode mK_length.2.1 10 = .ok (.ireturn, 1) := by decide +kernel
theorem dK_at_0 : decode mK_at.2.1 0 = .ok (.iload_n 1, 1) := by decide +kernel
theorem dK_at_1 : decode mK_at.2.1 1 = .ok (.ifCond .lt (32), 3) := by decide +kernel
theorem dK_at_4 : decode mK_at.2.1 4 = .ok (.iload_n 1, 1) := by decide +kernel
theorem dK_at_5 : decode mK_at.2.1 5 = .ok (.aload_n 0, 1) := by decide +kernel
theorem dK_at_6 : decode mK_at.2.1 6 = .ok (.getfield 16, 3) := by decide +kernel
theorem dK_at_9 : decode mK_at.2.1 9 = .ok (.getfield 31, 3) := by decide +kernel
theorem dK_at_12 : decode mK_at.2.1 12 = .ok (.getfield 35, 3) := by decide +kernel
theorem dK_at_15 : decode mK_at.2.1 15 = .ok (.if_icmp .ge (18), 3) := by decide +kernel
theorem dK_at_18 : decode mK_at.2.1 18 = .ok (.aload_n 0, 1) := by decide +kernel
theorem dK_at_19 : decode mK_at.2.1 19 = .ok (.getfield 16, 3) := by decide +kernel
theorem dK_at_22 : decode mK_at.2.1 22 = .ok (.getfield 31, 3) := by decide +kernel
theorem dK_at_25 : decode mK_at.2.1 25 = .ok (.getfield 66, 3) := by decide +kernel
theorem dK_at_28 : decode mK_at.2.1 28 = .ok (.iload_n 1, 1) := by decide +kernel
theorem dK_at_29 : decode mK_at.2.1 29 = .ok (.caload, 1) := by decide +kernel
theorem dK_at_30 : decode mK_at.2.1 30 = .ok (.goto (4), 3) := by decide +kernel
theorem dK_at_33 : decode mK_at.2.1 33 = .ok (.iconst 0, 1) := by decide +kernel
theorem dK_at_34 : decode mK_at.2.1 34 = .ok (.ireturn, 1) := by decide +kernel
theorem dK_tokens_0 : decode mK_tokens.2.1 0 = .ok (.aload_n 0, 1) := by decide +kernel
theorem dK_tokens_1 : decode mK_tokens.2.1 1 = .ok (.getfield 16, 3) := by decide +kernel
theorem dK_tokens_4 : decode mK_tokens.2.1 4 = .ok (.getfield 31, 3) := by decide +kernel
theorem dK_tokens_7 : decode mK_tokens.2.1 7 = .ok (.getfield 63, 3) := by decide +kernel
theorem dK_tokens_10 : decode mK_tokens.2.1 10 = .ok (.ireturn, 1) := by decide +kernel
theorem dK_token_0 : decode mK_token.2.1 0 = .ok (.iload_n 1, 1) := by decide +kernel
theorem dK_token_1 : decode mK_token.2.1 1 = .ok (.ifCond .lt (17), 3) := by decide +kernel
theorem dK_token_4 : decode mK_token.2.1 4 = .ok (.iload_n 1, 1) := by decide +kernel
theorem dK_token_5 : decode mK_token.2.1 5 = .ok (.aload_n 0, 1) := by decide +kernel
theorem dK_token_6 : decode mK_token.2.1 6 = .ok (.getfield 16, 3) := by decide +kernel
theorem dK_token_9 : decode mK_token.2.1 9 = .ok (.getfield 31, 3) := by decide +kernel
theorem dK_token_12 : decode mK_token.2.1 12 = .ok (.getfield 63, 3) := by decide +kernel
theorem dK_token_15 : decode mK_token.2.1 15 = .ok (.if_icmp .lt (11), 3) := by decide +kernel
theorem dK_token_18 : decode mK_token.2.1 18 = .ok (.new 40, 3) := by decide +kernel
theorem dK_token_21 : decode mK_token.2.1 21 = .ok (.dup, 1) := by decide +kernel
theorem dK_token_22 : decode mK_token.2.1 22 = .ok (.invokespecial 42, 3) := by decide +kernel
theorem dK_token_25 : decode mK_token.2.1 25 = .ok (.athrow, 1) := by decide +kernel
theorem dK_token_26 : decode mK_token.2.1 26 = .ok (.aload_n 0, 1) := by decide +kernel
theorem dK_token_27 : decode mK_token.2.1 27 = .ok (.getfield 16, 3) := by decide +kernel
theorem dK_token_30 : decode mK_token.2.1 30 = .ok (.getfield 31, 3) := by decide +kernel
theorem dK_token_33 : decode mK_token.2.1 33 = .ok (.getfield 69, 3) := by decide +kernel
theorem dK_token_36 : decode mK_token.2.1 36 = .ok (.iload_n 1, 1) := by decide +kernel
theorem dK_token_37 : decode mK_token.2.1 37 = .ok (.iaload, 1) := by decide +kernel
theorem dK_token_38 : decode mK_token.2.1 38 = .ok (.ireturn, 1) := by decide +kernel
theorem dK_fault_0 : decode mK_fault.2.1 0 = .ok (.aload_n 0, 1) := by decide +kernel
theorem dK_fault_1 : decode mK_fault.2.1 1 = .ok (.getfield 16, 3) := by decide +kernel
theorem dK_fault_4 : decode mK_fault.2.1 4 = .ok (.invokevirtual 72, 3) := by decide +kernel
theorem dK_fault_7 : decode mK_fault.2.1 7 = .ok (.ireturn, 1) := by decide +kernel
theorem dK_items_0 : decode mK_items.2.1 0 = .ok (.aload_n 0, 1) := by decide +kernel
theorem dK_items_1 : decode mK_items.2.1 1 = .ok (.getfield 16, 3) := by decide +kernel
theorem dK_items_4 : decode mK_items.2.1 4 = .ok (.getfield 76, 3) := by decide +kernel
theorem dK_items_7 : decode mK_items.2.1 7 = .ok (.getfield 80, 3) := by decide +kernel
theorem dK_items_10 : decode mK_items.2.1 10 = .ok (.ireturn, 1) := by decide +kernel
theorem dK_kept_0 : decode mK_kept.2.1 0 = .ok (.aload_n 0, 1) := by decide +kernel
theorem dK_kept_1 : decode mK_kept.2.1 1 = .ok (.getfield 83, 3) := by decide +kernel
theorem dK_kept_4 : decode mK_kept.2.1 4 = .ok (.ireturn, 1) := by decide +kernel
theorem dK_number_0 : decode mK_number.2.1 0 = .ok (.aload_n 0, 1) := by decide +kernel
theorem dK_number_1 : decode mK_number.2.1 1 = .ok (.getfield 16, 3) := by decide +kernel
theorem dK_number_4 : decode mK_number.2.1 4 = .ok (.getfield 76, 3) := by decide +kernel
theorem dK_number_7 : decode mK_number.2.1 7 = .ok (.iload_n 1, 1) := by decide +kernel
theorem dK_number_8 : decode mK_number.2.1 8 = .ok (.invokevirtual 86, 3) := by decide +kernel
theorem dK_number_11 : decode mK_number.2.1 11 = .ok (.ifCond .eq (18), 3) := by decide +kernel
theorem dK_number_14 : decode mK_number.2.1 14 = .ok (.aload_n 0, 1) := by decide +kernel
theorem dK_number_15 : decode mK_number.2.1 15 = .ok (.getfield 16, 3) := by decide +kernel
theorem dK_number_18 : decode mK_number.2.1 18 = .ok (.getfield 76, 3) := by decide +kernel
theorem dK_number_21 : decode mK_number.2.1 21 = .ok (.getfield 90, 3) := by decide +kernel
theorem dK_number_24 : decode mK_number.2.1 24 = .ok (.iload_n 1, 1) := by decide +kernel
theorem dK_number_25 : decode mK_number.2.1 25 = .ok (.iaload, 1) := by decide +kernel
theorem dK_number_26 : decode mK_number.2.1 26 = .ok (.goto (4), 3) := by decide +kernel
theorem dK_number_29 : decode mK_number.2.1 29 = .ok (.iconst (-1), 1) := by decide +kernel
theorem dK_number_30 : decode mK_number.2.1 30 = .ok (.ireturn, 1) := by decide +kernel
theorem dK_which_0 : decode mK_which.2.1 0 = .ok (.aload_n 0, 1) := by decide +kernel
theorem dK_which_1 : decode mK_which.2.1 1 = .ok (.getfield 16, 3) := by decide +kernel
theorem dK_which_4 : decode mK_which.2.1 4 = .ok (.getfield 76, 3) := by decide +kernel
theorem dK_which_7 : decode mK_which.2.1 7 = .ok (.iload_n 1, 1) := by decide +kernel
theorem dK_which_8 : decode mK_which.2.1 8 = .ok (.invokevirtual 93, 3) := by decide +kernel
theorem dK_which_11 : decode mK_which.2.1 11 = .ok (.ireturn, 1) := by decide +kernel
theorem dK_begin_0 : decode mK_begin.2.1 0 = .ok (.aload_n 0, 1) := by decide +kernel
theorem dK_begin_1 : decode mK_begin.2.1 1 = .ok (.getfield 16, 3) := by decide +kernel
theorem dK_begin_4 : decode mK_begin.2.1 4 = .ok (.getfield 76, 3) := by decide +kernel
theorem dK_begin_7 : decode mK_begin.2.1 7 = .ok (.iload_n 1, 1) := by decide +kernel
theorem dK_begin_8 : decode mK_begin.2.1 8 = .ok (.invokevirtual 86, 3) := by decide +kernel
theorem dK_begin_11 : decode mK_begin.2.1 11 = .ok (.ifCond .ne (11), 3) := by decide +kernel
theorem dK_begin_14 : decode mK_begin.2.1 14 = .ok (.new 40, 3) := by decide +kernel
theorem dK_begin_17 : decode mK_begin.2.1 17 = .ok (.dup, 1) := by decide +kernel
theorem dK_begin_18 : decode mK_begin.2.1 18 = .ok (.invokespecial 42, 3) := by decide +kernel
theorem dK_begin_21 : decode mK_begin.2.1 21 = .ok (.athrow, 1) := by decide +kernel
theorem dK_begin_22 : decode mK_begin.2.1 22 = .ok (.aload_n 0, 1) := by decide +kernel
theorem dK_begin_23 : decode mK_begin.2.1 23 = .ok (.getfield 16, 3) := by decide +kernel
theorem dK_begin_26 : decode mK_begin.2.1 26 = .ok (.getfield 31, 3) := by decide +kernel
theorem dK_begin_29 : decode mK_begin.2.1 29 = .ok (.aload_n 0, 1) := by decide +kernel
theorem dK_begin_30 : decode mK_begin.2.1 30 = .ok (.getfield 16, 3) := by decide +kernel
theorem dK_begin_33 : decode mK_begin.2.1 33 = .ok (.getfield 76, 3) := by decide +kernel
theorem dK_begin_36 : decode mK_begin.2.1 36 = .ok (.getfield 97, 3) := by decide +kernel
theorem dK_begin_39 : decode mK_begin.2.1 39 = .ok (.iload_n 1, 1) := by decide +kernel
theorem dK_begin_40 : decode mK_begin.2.1 40 = .ok (.iaload, 1) := by decide +kernel
theorem dK_begin_41 : decode mK_begin.2.1 41 = .ok (.invokevirtual 100, 3) := by decide +kernel
theorem dK_begin_44 : decode mK_begin.2.1 44 = .ok (.ireturn, 1) := by decide +kernel
theorem dK_end_0 : decode mK_end.2.1 0 = .ok (.aload_n 0, 1) := by decide +kernel
theorem dK_end_1 : decode mK_end.2.1 1 = .ok (.getfield 16, 3) := by decide +kernel
theorem dK_end_4 : decode mK_end.2.1 4 = .ok (.getfield 76, 3) := by decide +kernel
theorem dK_end_7 : decode mK_end.2.1 7 = .ok (.iload_n 1, 1) := by decide +kernel
theorem dK_end_8 : decode mK_end.2.1 8 = .ok (.invokevirtual 86, 3) := by decide +kernel
theorem dK_end_11 : decode mK_end.2.1 11 = .ok (.ifCond .ne (11), 3) := by decide +kernel
theorem dK_end_14 : decode mK_end.2.1 14 = .ok (.new 40, 3) := by decide +kernel
theorem dK_end_17 : decode mK_end.2.1 17 = .ok (.dup, 1) := by decide +kernel
theorem dK_end_18 : decode mK_end.2.1 18 = .ok (.invokespecial 42, 3) := by decide +kernel
theorem dK_end_21 : decode mK_end.2.1 21 = .ok (.athrow, 1) := by decide +kernel
theorem dK_end_22 : decode mK_end.2.1 22 = .ok (.aload_n 0, 1) := by decide +kernel
theorem dK_end_23 : decode mK_end.2.1 23 = .ok (.getfield 16, 3) := by decide +kernel
theorem dK_end_26 : decode mK_end.2.1 26 = .ok (.getfield 31, 3) := by decide +kernel
theorem dK_end_29 : decode mK_end.2.1 29 = .ok (.aload_n 0, 1) := by decide +kernel
theorem dK_end_30 : decode mK_end.2.1 30 = .ok (.getfield 16, 3) := by decide +kernel
theorem dK_end_33 : decode mK_end.2.1 33 = .ok (.getfield 76, 3) := by decide +kernel
theorem dK_end_36 : decode mK_end.2.1 36 = .ok (.getfield 103, 3) := by decide +kernel
theorem dK_end_39 : decode mK_end.2.1 39 = .ok (.iload_n 1, 1) := by decide +kernel
theorem dK_end_40 : decode mK_end.2.1 40 = .ok (.iaload, 1) := by decide +kernel
theorem dK_end_41 : decode mK_end.2.1 41 = .ok (.invokevirtual 106, 3) := by decide +kernel
theorem dK_end_44 : decode mK_end.2.1 44 = .ok (.ireturn, 1) := by decide +kernel
theorem dK_level_0 : decode mK_level.2.1 0 = .ok (.aload_n 0, 1) := by decide +kernel
theorem dK_level_1 : decode mK_level.2.1 1 = .ok (.getfield 16, 3) := by decide +kernel
theorem dK_level_4 : decode mK_level.2.1 4 = .ok (.getfield 76, 3) := by decide +kernel
theorem dK_level_7 : decode mK_level.2.1 7 = .ok (.iload_n 1, 1) := by decide +kernel
theorem dK_level_8 : decode mK_level.2.1 8 = .ok (.invokevirtual 86, 3) := by decide +kernel
theorem dK_level_11 : decode mK_level.2.1 11 = .ok (.ifCond .eq (18), 3) := by decide +kernel
theorem dK_level_14 : decode mK_level.2.1 14 = .ok (.aload_n 0, 1) := by decide +kernel
theorem dK_level_15 : decode mK_level.2.1 15 = .ok (.getfield 16, 3) := by decide +kernel
theorem dK_level_18 : decode mK_level.2.1 18 = .ok (.getfield 76, 3) := by decide +kernel
theorem dK_level_21 : decode mK_level.2.1 21 = .ok (.getfield 109, 3) := by decide +kernel
theorem dK_level_24 : decode mK_level.2.1 24 = .ok (.iload_n 1, 1) := by decide +kernel
theorem dK_level_25 : decode mK_level.2.1 25 = .ok (.iaload, 1) := by decide +kernel
theorem dK_level_26 : decode mK_level.2.1 26 = .ok (.goto (4), 3) := by decide +kernel
theorem dK_level_29 : decode mK_level.2.1 29 = .ok (.iconst (-1), 1) := by decide +kernel
theorem dK_level_30 : decode mK_level.2.1 30 = .ok (.ireturn, 1) := by decide +kernel
theorem dK_value_0 : decode mK_value.2.1 0 = .ok (.aload_n 0, 1) := by decide +kernel
theorem dK_value_1 : decode mK_value.2.1 1 = .ok (.getfield 16, 3) := by decide +kernel
theorem dK_value_4 : decode mK_value.2.1 4 = .ok (.getfield 76, 3) := by decide +kernel
theorem dK_value_7 : decode mK_value.2.1 7 = .ok (.iload_n 1, 1) := by decide +kernel
theorem dK_value_8 : decode mK_value.2.1 8 = .ok (.invokevirtual 86, 3) := by decide +kernel
theorem dK_value_11 : decode mK_value.2.1 11 = .ok (.ifCond .ne (11), 3) := by decide +kernel
theorem dK_value_14 : decode mK_value.2.1 14 = .ok (.new 40, 3) := by decide +kernel
theorem dK_value_17 : decode mK_value.2.1 17 = .ok (.dup, 1) := by decide +kernel
theorem dK_value_18 : decode mK_value.2.1 18 = .ok (.invokespecial 42, 3) := by decide +kernel
theorem dK_value_21 : decode mK_value.2.1 21 = .ok (.athrow, 1) := by decide +kernel
theorem dK_value_22 : decode mK_value.2.1 22 = .ok (.aload_n 0, 1) := by decide +kernel
theorem dK_value_23 : decode mK_value.2.1 23 = .ok (.getfield 16, 3) := by decide +kernel
theorem dK_value_26 : decode mK_value.2.1 26 = .ok (.getfield 76, 3) := by decide +kernel
theorem dK_value_29 : decode mK_value.2.1 29 = .ok (.getfield 112, 3) := by decide +kernel
theorem dK_value_32 : decode mK_value.2.1 32 = .ok (.iload_n 1, 1) := by decide +kernel
theorem dK_value_33 : decode mK_value.2.1 33 = .ok (.iaload, 1) := by decide +kernel
theorem dK_value_34 : decode mK_value.2.1 34 = .ok (.ireturn, 1) := by decide +kernel
theorem dK_traceTokens_0 : decode mK_traceTokens.2.1 0 = .ok (.aload_n 0, 1) := by decide +kernel
theorem dK_traceTokens_1 : decode mK_traceTokens.2.1 1 = .ok (.getfield 16, 3) := by decide +kernel
theorem dK_traceTokens_4 : decode mK_traceTokens.2.1 4 = .ok (.getfield 31, 3) := by decide +kernel
theorem dK_traceTokens_7 : decode mK_traceTokens.2.1 7 = .ok (.astore_n 3, 1) := by decide +kernel
theorem dK_traceTokens_8 : decode mK_traceTokens.2.1 8 = .ok (.iconst 0, 1) := by decide +kernel
theorem dK_traceTokens_9 : decode mK_traceTokens.2.1 9 = .ok (.istore 4, 2) := by decide +kernel
theorem dK_traceTokens_11 : decode mK_traceTokens.2.1 11 = .ok (.iconst 0, 1) := by decide +kernel
theorem dK_traceTokens_12 : decode mK_traceTokens.2.1 12 = .ok (.istore 5, 2) := by decide +kernel
theorem dK_traceTokens_14 : decode mK_traceTokens.2.1 14 = .ok (.aload_n 0, 1) := by decide +kernel
theorem dK_traceTokens_15 : decode mK_traceTokens.2.1 15 = .ok (.getfield 23, 3) := by decide +kernel
theorem dK_traceTokens_18 : decode mK_traceTokens.2.1 18 = .ok (.iconst (-1), 1) := by decide +kernel
theorem dK_traceTokens_19 : decode mK_traceTokens.2.1 19 = .ok (.invokestatic 115, 3) := by decide +kernel
theorem dK_traceTokens_22 : decode mK_traceTokens.2.1 22 = .ok (.iconst 0, 1) := by decide +kernel
theorem dK_traceTokens_23 : decode mK_traceTokens.2.1 23 = .ok (.istore 6, 2) := by decide +kernel
theorem dK_traceTokens_25 : decode mK_traceTokens.2.1 25 = .ok (.iload 6, 2) := by decide +kernel
theorem dK_traceTokens_27 : decode mK_traceTokens.2.1 27 = .ok (.aload_n 0, 1) := by decide +kernel
theorem dK_traceTokens_28 : decode mK_traceTokens.2.1 28 = .ok (.getfield 20, 3) := by decide +kernel
theorem dK_traceTokens_31 : decode mK_traceTokens.2.1 31 = .ok (.getfield 31, 3) := by decide +kernel
theorem dK_traceTokens_34 : decode mK_traceTokens.2.1 34 = .ok (.getfield 63, 3) := by decide +kernel
theorem dK_traceTokens_37 : decode mK_traceTokens.2.1 37 = .ok (.if_icmp .ge (89), 3) := by decide +kernel
theorem dK_traceTokens_40 : decode mK_traceTokens.2.1 40 = .ok (.aload_n 0, 1) := by decide +kernel
theorem dK_traceTokens_41 : decode mK_traceTokens.2.1 41 = .ok (.getfield 20, 3) := by decide +kernel
theorem dK_traceTokens_44 : decode mK_traceTokens.2.1 44 = .ok (.getfield 31, 3) := by decide +kernel
theorem dK_traceTokens_47 : decode mK_traceTokens.2.1 47 = .ok (.iload 6, 2) := by decide +kernel
theorem dK_traceTokens_49 : decode mK_traceTokens.2.1 49 = .ok (.iload_n 1, 1) := by decide +kernel
theorem dK_traceTokens_50 : decode mK_traceTokens.2.1 50 = .ok (.iload_n 2, 1) := by decide +kernel
theorem dK_traceTokens_51 : decode mK_traceTokens.2.1 51 = .ok (.aload_n 0, 1) := by decide +kernel
theorem dK_traceTokens_52 : decode mK_traceTokens.2.1 52 = .ok (.getfield 27, 3) := by decide +kernel
theorem dK_traceTokens_55 : decode mK_traceTokens.2.1 55 = .ok (.invokevirtual 120, 3) := by decide +kernel
theorem dK_traceTokens_58 : decode mK_traceTokens.2.1 58 = .ok (.istore 7, 2) := by decide +kernel
theorem dK_traceTokens_60 : decode mK_traceTokens.2.1 60 = .ok (.iload 5, 2) := by decide +kernel
theorem dK_traceTokens_62 : decode mK_traceTokens.2.1 62 = .ok (.aload_n 3, 1) := by decide +kernel
theorem dK_traceTokens_63 : decode mK_traceTokens.2.1 63 = .ok (.getfield 63, 3) := by decide +kernel
theorem dK_traceTokens_66 : decode mK_traceTokens.2.1 66 = .ok (.if_icmp .ge (21), 3) := by decide +kernel
theorem dK_traceTokens_69 : decode mK_traceTokens.2.1 69 = .ok (.aload_n 3, 1) := by decide +kernel
theorem dK_traceTokens_70 : decode mK_traceTokens.2.1 70 = .ok (.getfield 69, 3) := by decide +kernel
theorem dK_traceTokens_73 : decode mK_traceTokens.2.1 73 = .ok (.iload 5, 2) := by decide +kernel
theorem dK_traceTokens_75 : decode mK_traceTokens.2.1 75 = .ok (.iaload, 1) := by decide +kernel
theorem dK_traceTokens_76 : decode mK_traceTokens.2.1 76 = .ok (.iload 7, 2) := by decide +kernel
theorem dK_traceTokens_78 : decode mK_traceTokens.2.1 78 = .ok (.if_icmp .ge (9), 3) := by decide +kernel
theorem dK_traceTokens_81 : decode mK_traceTokens.2.1 81 = .ok (.iinc 5 (1), 3) := by decide +kernel
theorem dK_traceTokens_84 : decode mK_traceTokens.2.1 84 = .ok (.goto (-24), 3) := by decide +kernel
theorem dK_traceTokens_87 : decode mK_traceTokens.2.1 87 = .ok (.iload 5, 2) := by decide +kernel
theorem dK_traceTokens_89 : decode mK_traceTokens.2.1 89 = .ok (.aload_n 3, 1) := by decide +kernel
theorem dK_traceTokens_90 : decode mK_traceTokens.2.1 90 = .ok (.getfield 63, 3) := by decide +kernel
theorem dK_traceTokens_93 : decode mK_traceTokens.2.1 93 = .ok (.if_icmp .ge (27), 3) := by decide +kernel
theorem dK_traceTokens_96 : decode mK_traceTokens.2.1 96 = .ok (.aload_n 3, 1) := by decide +kernel
theorem dK_traceTokens_97 : decode mK_traceTokens.2.1 97 = .ok (.getfield 69, 3) := by decide +kernel
theorem dK_traceTokens_100 : decode mK_traceTokens.2.1 100 = .ok (.iload 5, 2) := by decide +kernel
theorem dK_traceTokens_102 : decode mK_traceTokens.2.1 102 = .ok (.iaload, 1) := by decide +kernel
theorem dK_traceTokens_103 : decode mK_traceTokens.2.1 103 = .ok (.iload 7, 2) := by decide +kernel
theorem dK_traceTokens_105 : decode mK_traceTokens.2.1 105 = .ok (.if_icmp .ne (15), 3) := by decide +kernel
theorem dK_traceTokens_108 : decode mK_traceTokens.2.1 108 = .ok (.aload_n 0, 1) := by decide +kernel
theorem dK_traceTokens_109 : decode mK_traceTokens.2.1 109 = .ok (.getfield 23, 3) := by decide +kernel
theorem dK_traceTokens_112 : decode mK_traceTokens.2.1 112 = .ok (.iload 5, 2) := by decide +kernel
theorem dK_traceTokens_114 : decode mK_traceTokens.2.1 114 = .ok (.iload 6, 2) := by decide +kernel
theorem dK_traceTokens_116 : decode mK_traceTokens.2.1 116 = .ok (.iastore, 1) := by decide +kernel
theorem dK_traceTokens_117 : decode mK_traceTokens.2.1 117 = .ok (.iinc 4 (1), 3) := by decide +kernel
theorem dK_traceTokens_120 : decode mK_traceTokens.2.1 120 = .ok (.iinc 6 (1), 3) := by decide +kernel
theorem dK_traceTokens_123 : decode mK_traceTokens.2.1 123 = .ok (.goto (-98), 3) := by decide +kernel
theorem dK_traceTokens_126 : decode mK_traceTokens.2.1 126 = .ok (.iload 4, 2) := by decide +kernel
theorem dK_traceTokens_128 : decode mK_traceTokens.2.1 128 = .ok (.ireturn, 1) := by decide +kernel
theorem dK_numberItems_0 : decode mK_numberItems.2.1 0 = .ok (.aload_n 0, 1) := by decide +kernel
theorem dK_numberItems_1 : decode mK_numberItems.2.1 1 = .ok (.iconst 0, 1) := by decide +kernel
theorem dK_numberItems_2 : decode mK_numberItems.2.1 2 = .ok (.putfield 83, 3) := by decide +kernel
theorem dK_numberItems_5 : decode mK_numberItems.2.1 5 = .ok (.iconst 0, 1) := by decide +kernel
theorem dK_numberItems_6 : decode mK_numberItems.2.1 6 = .ok (.istore_n 1, 1) := by decide +kernel
theorem dK_numberItems_7 : decode mK_numberItems.2.1 7 = .ok (.iload_n 1, 1) := by decide +kernel
theorem dK_numberItems_8 : decode mK_numberItems.2.1 8 = .ok (.aload_n 0, 1) := by decide +kernel
theorem dK_numberItems_9 : decode mK_numberItems.2.1 9 = .ok (.getfield 16, 3) := by decide +kernel
theorem dK_numberItems_12 : decode mK_numberItems.2.1 12 = .ok (.getfield 76, 3) := by decide +kernel
theorem dK_numberItems_15 : decode mK_numberItems.2.1 15 = .ok (.getfield 80, 3) := by decide +kernel
theorem dK_numberItems_18 : decode mK_numberItems.2.1 18 = .ok (.if_icmp .ge (83), 3) := by decide +kernel
theorem dK_numberItems_21 : decode mK_numberItems.2.1 21 = .ok (.aload_n 0, 1) := by decide +kernel
theorem dK_numberItems_22 : decode mK_numberItems.2.1 22 = .ok (.iload_n 1, 1) := by decide +kernel
theorem dK_numberItems_23 : decode mK_numberItems.2.1 23 = .ok (.invokevirtual 124, 3) := by decide +kernel
theorem dK_numberItems_26 : decode mK_numberItems.2.1 26 = .ok (.istore_n 2, 1) := by decide +kernel
theorem dK_numberItems_27 : decode mK_numberItems.2.1 27 = .ok (.iload_n 2, 1) := by decide +kernel
theorem dK_numberItems_28 : decode mK_numberItems.2.1 28 = .ok (.iconst (-1), 1) := by decide +kernel
theorem dK_numberItems_29 : decode mK_numberItems.2.1 29 = .ok (.if_icmp .ne (32), 3) := by decide +kernel
theorem dK_numberItems_32 : decode mK_numberItems.2.1 32 = .ok (.aload_n 0, 1) := by decide +kernel
theorem dK_numberItems_33 : decode mK_numberItems.2.1 33 = .ok (.getfield 16, 3) := by decide +kernel
theorem dK_numberItems_36 : decode mK_numberItems.2.1 36 = .ok (.getfield 76, 3) := by decide +kernel
theorem dK_numberItems_39 : decode mK_numberItems.2.1 39 = .ok (.getfield 90, 3) := by decide +kernel
theorem dK_numberItems_42 : decode mK_numberItems.2.1 42 = .ok (.iload_n 1, 1) := by decide +kernel
theorem dK_numberItems_43 : decode mK_numberItems.2.1 43 = .ok (.aload_n 0, 1) := by decide +kernel
theorem dK_numberItems_44 : decode mK_numberItems.2.1 44 = .ok (.getfield 127, 3) := by decide +kernel
theorem dK_numberItems_47 : decode mK_numberItems.2.1 47 = .ok (.iastore, 1) := by decide +kernel
theorem dK_numberItems_48 : decode mK_numberItems.2.1 48 = .ok (.aload_n 0, 1) := by decide +kernel
theorem dK_numberItems_49 : decode mK_numberItems.2.1 49 = .ok (.dup, 1) := by decide +kernel
theorem dK_numberItems_50 : decode mK_numberItems.2.1 50 = .ok (.getfield 127, 3) := by decide +kernel
theorem dK_numberItems_53 : decode mK_numberItems.2.1 53 = .ok (.iconst 1, 1) := by decide +kernel
theorem dK_numberItems_54 : decode mK_numberItems.2.1 54 = .ok (.iadd, 1) := by decide +kernel
theorem dK_numberItems_55 : decode mK_numberItems.2.1 55 = .ok (.putfield 127, 3) := by decide +kernel
theorem dK_numberItems_58 : decode mK_numberItems.2.1 58 = .ok (.goto (37), 3) := by decide +kernel
theorem dK_numberItems_61 : decode mK_numberItems.2.1 61 = .ok (.aload_n 0, 1) := by decide +kernel
theorem dK_numberItems_62 : decode mK_numberItems.2.1 62 = .ok (.getfield 16, 3) := by decide +kernel
theorem dK_numberItems_65 : decode mK_numberItems.2.1 65 = .ok (.getfield 76, 3) := by decide +kernel
theorem dK_numberItems_68 : decode mK_numberItems.2.1 68 = .ok (.getfield 90, 3) := by decide +kernel
theorem dK_numberItems_71 : decode mK_numberItems.2.1 71 = .ok (.iload_n 1, 1) := by decide +kernel
theorem dK_numberItems_72 : decode mK_numberItems.2.1 72 = .ok (.aload_n 0, 1) := by decide +kernel
theorem dK_numberItems_73 : decode mK_numberItems.2.1 73 = .ok (.getfield 20, 3) := by decide +kernel
theorem dK_numberItems_76 : decode mK_numberItems.2.1 76 = .ok (.getfield 76, 3) := by decide +kernel
theorem dK_numberItems_79 : decode mK_numberItems.2.1 79 = .ok (.getfield 90, 3) := by decide +kernel
theorem dK_numberItems_82 : decode mK_numberItems.2.1 82 = .ok (.iload_n 2, 1) := by decide +kernel
theorem dK_numberItems_83 : decode mK_numberItems.2.1 83 = .ok (.iaload, 1) := by decide +kernel
theorem dK_numberItems_84 : decode mK_numberItems.2.1 84 = .ok (.iastore, 1) := by decide +kernel
theorem dK_numberItems_85 : decode mK_numberItems.2.1 85 = .ok (.aload_n 0, 1) := by decide +kernel
theorem dK_numberItems_86 : decode mK_numberItems.2.1 86 = .ok (.dup, 1) := by decide +kernel
theorem dK_numberItems_87 : decode mK_numberItems.2.1 87 = .ok (.getfield 83, 3) := by decide +kernel
theorem dK_numberItems_90 : decode mK_numberItems.2.1 90 = .ok (.iconst 1, 1) := by decide +kernel
theorem dK_numberItems_91 : decode mK_numberItems.2.1 91 = .ok (.iadd, 1) := by decide +kernel
theorem dK_numberItems_92 : decode mK_numberItems.2.1 92 = .ok (.putfield 83, 3) := by decide +kernel
theorem dK_numberItems_95 : decode mK_numberItems.2.1 95 = .ok (.iinc 1 (1), 3) := by decide +kernel
theorem dK_numberItems_98 : decode mK_numberItems.2.1 98 = .ok (.goto (-91), 3) := by decide +kernel
theorem dK_numberItems_101 : decode mK_numberItems.2.1 101 = .ok (.return_, 1) := by decide +kernel
theorem dK_oldItem_0 : decode mK_oldItem.2.1 0 = .ok (.aload_n 0, 1) := by decide +kernel
theorem dK_oldItem_1 : decode mK_oldItem.2.1 1 = .ok (.getfield 16, 3) := by decide +kernel
theorem dK_oldItem_4 : decode mK_oldItem.2.1 4 = .ok (.getfield 76, 3) := by decide +kernel
theorem dK_oldItem_7 : decode mK_oldItem.2.1 7 = .ok (.getfield 97, 3) := by decide +kernel
theorem dK_oldItem_10 : decode mK_oldItem.2.1 10 = .ok (.iload_n 1, 1) := by decide +kernel
theorem dK_oldItem_11 : decode mK_oldItem.2.1 11 = .ok (.iaload, 1) := by decide +kernel
theorem dK_oldItem_12 : decode mK_oldItem.2.1 12 = .ok (.istore_n 2, 1) := by decide +kernel
theorem dK_oldItem_13 : decode mK_oldItem.2.1 13 = .ok (.aload_n 0, 1) := by decide +kernel
theorem dK_oldItem_14 : decode mK_oldItem.2.1 14 = .ok (.getfield 16, 3) := by decide +kernel
theorem dK_oldItem_17 : decode mK_oldItem.2.1 17 = .ok (.getfield 76, 3) := by decide +kernel
theorem dK_oldItem_20 : decode mK_oldItem.2.1 20 = .ok (.getfield 103, 3) := by decide +kernel
theorem dK_oldItem_23 : decode mK_oldItem.2.1 23 = .ok (.iload_n 1, 1) := by decide +kernel
theorem dK_oldItem_24 : decode mK_oldItem.2.1 24 = .ok (.iaload, 1) := by decide +kernel
theorem dK_oldItem_25 : decode mK_oldItem.2.1 25 = .ok (.istore_n 3, 1) := by decide +kernel
theorem dK_oldItem_26 : decode mK_oldItem.2.1 26 = .ok (.aload_n 0, 1) := by decide +kernel
theorem dK_oldItem_27 : decode mK_oldItem.2.1 27 = .ok (.getfield 23, 3) := by decide +kernel
theorem dK_oldItem_30 : decode mK_oldItem.2.1 30 = .ok (.iload_n 2, 1) := by decide +kernel
theorem dK_oldItem_31 : decode mK_oldItem.2.1 31 = .ok (.iaload, 1) := by decide +kernel
theorem dK_oldItem_32 : decode mK_oldItem.2.1 32 = .ok (.istore 4, 2) := by decide +kernel
theorem dK_oldItem_34 : decode mK_oldItem.2.1 34 = .ok (.iload 4, 2) := by decide +kernel
theorem dK_oldItem_36 : decode mK_oldItem.2.1 36 = .ok (.iconst (-1), 1) := by decide +kernel
theorem dK_oldItem_37 : decode mK_oldItem.2.1 37 = .ok (.if_icmp .ne (5), 3) := by decide +kernel
theorem dK_oldItem_40 : decode mK_oldItem.2.1 40 = .ok (.iconst (-1), 1) := by decide +kernel
theorem dK_oldItem_41 : decode mK_oldItem.2.1 41 = .ok (.ireturn, 1) := by decide +kernel
theorem dK_oldItem_42 : decode mK_oldItem.2.1 42 = .ok (.iload_n 2, 1) := by decide +kernel
theorem dK_oldItem_43 : decode mK_oldItem.2.1 43 = .ok (.iconst 1, 1) := by decide +kernel
theorem dK_oldItem_44 : decode mK_oldItem.2.1 44 = .ok (.iadd, 1) := by decide +kernel
theorem dK_oldItem_45 : decode mK_oldItem.2.1 45 = .ok (.istore 5, 2) := by decide +kernel
theorem dK_oldItem_47 : decode mK_oldItem.2.1 47 = .ok (.iload 5, 2) := by decide +kernel
theorem dK_oldItem_49 : decode mK_oldItem.2.1 49 = .ok (.iload_n 3, 1) := by decide +kernel
theorem dK_oldItem_50 : decode mK_oldItem.2.1 50 = .ok (.if_icmp .gt (28), 3) := by decide +kernel
theorem dK_oldItem_53 : decode mK_oldItem.2.1 53 = .ok (.aload_n 0, 1) := by decide +kernel
theorem dK_oldItem_54 : decode mK_oldItem.2.1 54 = .ok (.getfield 23, 3) := by decide +kernel
theorem dK_oldItem_57 : decode mK_oldItem.2.1 57 = .ok (.iload 5, 2) := by decide +kernel
theorem dK_oldItem_59 : decode mK_oldItem.2.1 59 = .ok (.iaload, 1) := by decide +kernel
theorem dK_oldItem_60 : decode mK_oldItem.2.1 60 = .ok (.iload 4, 2) := by decide +kernel
theorem dK_oldItem_62 : decode mK_oldItem.2.1 62 = .ok (.isub, 1) := by decide +kernel
theorem dK_oldItem_63 : decode mK_oldItem.2.1 63 = .ok (.iload 5, 2) := by decide +kernel
