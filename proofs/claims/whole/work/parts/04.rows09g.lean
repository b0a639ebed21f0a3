theorem dX7_told_58 : decode cX7_told 58 = .ok (.iconst 1, 1) := by decide +kernel
theorem dX7_told_59 : decode cX7_told 59 = .ok (.goto 47, 3) := by decide +kernel
theorem dX7_told_62 : decode cX7_told 62 = .ok (.iconst 0, 1) := by decide +kernel
theorem dX7_told_63 : decode cX7_told 63 = .ok (.goto 43, 3) := by decide +kernel
theorem dX7_told_66 : decode cX7_told 66 = .ok (.iload_n 1, 1) := by decide +kernel
theorem dX7_told_67 : decode cX7_told 67 = .ok (.iconst 2, 1) := by decide +kernel
theorem dX7_told_68 : decode cX7_told 68 = .ok (.if_icmp .ne 10, 3) := by decide +kernel
theorem dX7_told_71 : decode cX7_told 71 = .ok (.aload_n 0, 1) := by decide +kernel
theorem dX7_told_72 : decode cX7_told 72 = .ok (.getfield 19, 3) := by decide +kernel
theorem dX7_told_75 : decode cX7_told 75 = .ok (.goto 31, 3) := by decide +kernel
theorem dX7_told_78 : decode cX7_told 78 = .ok (.iload_n 1, 1) := by decide +kernel
theorem dX7_told_79 : decode cX7_told 79 = .ok (.iconst 3, 1) := by decide +kernel
theorem dX7_told_80 : decode cX7_told 80 = .ok (.if_icmp .ne 10, 3) := by decide +kernel
theorem dX7_told_83 : decode cX7_told 83 = .ok (.aload_n 0, 1) := by decide +kernel
theorem dX7_told_84 : decode cX7_told 84 = .ok (.getfield 106, 3) := by decide +kernel
theorem dX7_told_87 : decode cX7_told 87 = .ok (.goto 19, 3) := by decide +kernel
theorem dX7_told_90 : decode cX7_told 90 = .ok (.iload_n 1, 1) := by decide +kernel
theorem dX7_told_91 : decode cX7_told 91 = .ok (.iconst 4, 1) := by decide +kernel
theorem dX7_told_92 : decode cX7_told 92 = .ok (.if_icmp .ne 10, 3) := by decide +kernel
theorem dX7_told_95 : decode cX7_told 95 = .ok (.aload_n 0, 1) := by decide +kernel
theorem dX7_told_96 : decode cX7_told 96 = .ok (.getfield 128, 3) := by decide +kernel
theorem dX7_told_99 : decode cX7_told 99 = .ok (.goto 7, 3) := by decide +kernel
theorem dX7_told_102 : decode cX7_told 102 = .ok (.aload_n 0, 1) := by decide +kernel
theorem dX7_told_103 : decode cX7_told 103 = .ok (.getfield 115, 3) := by decide +kernel
theorem dX7_told_106 : decode cX7_told 106 = .ok (.ireturn, 1) := by decide +kernel
theorem dJ6_bitCount_0f7a4_0 : decode cJ6_bitCount_0f7a4 0 = .ok (.iload_n 0, 1) := by decide +kernel
theorem dJ6_bitCount_0f7a4_1 : decode cJ6_bitCount_0f7a4 1 = .ok (.iload_n 0, 1) := by decide +kernel
theorem dJ6_bitCount_0f7a4_2 : decode cJ6_bitCount_0f7a4 2 = .ok (.iconst 1, 1) := by decide +kernel
theorem dJ6_bitCount_0f7a4_3 : decode cJ6_bitCount_0f7a4 3 = .ok (.iushr, 1) := by decide +kernel
theorem dJ6_bitCount_0f7a4_4 : decode cJ6_bitCount_0f7a4 4 = .ok (.ldc_w 265, 3) := by decide +kernel
theorem dJ6_bitCount_0f7a4_7 : decode cJ6_bitCount_0f7a4 7 = .ok (.iand, 1) := by decide +kernel
theorem dJ6_bitCount_0f7a4_8 : decode cJ6_bitCount_0f7a4 8 = .ok (.isub, 1) := by decide +kernel
theorem dJ6_bitCount_0f7a4_9 : decode cJ6_bitCount_0f7a4 9 = .ok (.istore_n 0, 1) := by decide +kernel
theorem dJ6_bitCount_0f7a4_10 : decode cJ6_bitCount_0f7a4 10 = .ok (.iload_n 0, 1) := by decide +kernel
theorem dJ6_bitCount_0f7a4_11 : decode cJ6_bitCount_0f7a4 11 = .ok (.ldc_w 266, 3) := by decide +kernel
theorem dJ6_bitCount_0f7a4_14 : decode cJ6_bitCount_0f7a4 14 = .ok (.iand, 1) := by decide +kernel
theorem dJ6_bitCount_0f7a4_15 : decode cJ6_bitCount_0f7a4 15 = .ok (.iload_n 0, 1) := by decide +kernel
theorem dJ6_bitCount_0f7a4_16 : decode cJ6_bitCount_0f7a4 16 = .ok (.iconst 2, 1) := by decide +kernel
theorem dJ6_bitCount_0f7a4_17 : decode cJ6_bitCount_0f7a4 17 = .ok (.iushr, 1) := by decide +kernel
theorem dJ6_bitCount_0f7a4_18 : decode cJ6_bitCount_0f7a4 18 = .ok (.ldc_w 266, 3) := by decide +kernel
