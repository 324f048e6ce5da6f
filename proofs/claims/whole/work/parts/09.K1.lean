theorem dK_oldItem_65 : decode mK_oldItem.2.1 65 = .ok (.iload_n 2, 1) := by decide +kernel
theorem dK_oldItem_66 : decode mK_oldItem.2.1 66 = .ok (.isub, 1) := by decide +kernel
theorem dK_oldItem_67 : decode mK_oldItem.2.1 67 = .ok (.if_icmp .eq (5), 3) := by decide +kernel
theorem dK_oldItem_70 : decode mK_oldItem.2.1 70 = .ok (.iconst (-1), 1) := by decide +kernel
theorem dK_oldItem_71 : decode mK_oldItem.2.1 71 = .ok (.ireturn, 1) := by decide +kernel
theorem dK_oldItem_72 : decode mK_oldItem.2.1 72 = .ok (.iinc 5 (1), 3) := by decide +kernel
theorem dK_oldItem_75 : decode mK_oldItem.2.1 75 = .ok (.goto (-28), 3) := by decide +kernel
theorem dK_oldItem_78 : decode mK_oldItem.2.1 78 = .ok (.aload_n 0, 1) := by decide +kernel
theorem dK_oldItem_79 : decode mK_oldItem.2.1 79 = .ok (.getfield 20, 3) := by decide +kernel
theorem dK_oldItem_82 : decode mK_oldItem.2.1 82 = .ok (.getfield 76, 3) := by decide +kernel
theorem dK_oldItem_85 : decode mK_oldItem.2.1 85 = .ok (.iload 4, 2) := by decide +kernel
theorem dK_oldItem_87 : decode mK_oldItem.2.1 87 = .ok (.aload_n 0, 1) := by decide +kernel
theorem dK_oldItem_88 : decode mK_oldItem.2.1 88 = .ok (.getfield 23, 3) := by decide +kernel
theorem dK_oldItem_91 : decode mK_oldItem.2.1 91 = .ok (.iload_n 3, 1) := by decide +kernel
theorem dK_oldItem_92 : decode mK_oldItem.2.1 92 = .ok (.iaload, 1) := by decide +kernel
theorem dK_oldItem_93 : decode mK_oldItem.2.1 93 = .ok (.invokevirtual 130, 3) := by decide +kernel
theorem dK_oldItem_96 : decode mK_oldItem.2.1 96 = .ok (.ireturn, 1) := by decide +kernel
