theorem dX7_text_2 : decode cX7_text 2 = .ok (.ifCond .lt 23, 3) := by decide +kernel
theorem dX7_text_5 : decode cX7_text 5 = .ok (.iload_n 1, 1) := by decide +kernel
theorem dX7_text_6 : decode cX7_text 6 = .ok (.aload_n 0, 1) := by decide +kernel
theorem dX7_text_7 : decode cX7_text 7 = .ok (.getfield 109, 3) := by decide +kernel
theorem dX7_text_10 : decode cX7_text 10 = .ok (.if_icmp .ge 15, 3) := by decide +kernel
theorem dX7_text_13 : decode cX7_text 13 = .ok (.iload_n 1, 1) := by decide +kernel
theorem dX7_text_14 : decode cX7_text 14 = .ok (.aload_n 0, 1) := by decide +kernel
theorem dX7_text_15 : decode cX7_text 15 = .ok (.getfield 109, 3) := by decide +kernel
theorem dX7_text_18 : decode cX7_text 18 = .ok (.sipush 256, 3) := by decide +kernel
theorem dX7_text_21 : decode cX7_text 21 = .ok (.isub, 1) := by decide +kernel
theorem dX7_text_22 : decode cX7_text 22 = .ok (.if_icmp .ge 7, 3) := by decide +kernel
theorem dX7_text_25 : decode cX7_text 25 = .ok (.iconst 1, 1) := by decide +kernel
theorem dX7_text_26 : decode cX7_text 26 = .ok (.goto 4, 3) := by decide +kernel
theorem dX7_text_29 : decode cX7_text 29 = .ok (.iconst 0, 1) := by decide +kernel
theorem dX7_text_30 : decode cX7_text 30 = .ok (.putfield 29, 3) := by decide +kernel
theorem dX7_text_33 : decode cX7_text 33 = .ok (.aload_n 0, 1) := by decide +kernel
theorem dX7_text_34 : decode cX7_text 34 = .ok (.getfield 29, 3) := by decide +kernel
theorem dX7_text_37 : decode cX7_text 37 = .ok (.ifCond .le 7, 3) := by decide +kernel
theorem dX7_text_40 : decode cX7_text 40 = .ok (.iconst 0, 1) := by decide +kernel
theorem dX7_text_41 : decode cX7_text 41 = .ok (.goto 13, 3) := by decide +kernel
theorem dX7_text_44 : decode cX7_text 44 = .ok (.aload_n 0, 1) := by decide +kernel
theorem dX7_text_45 : decode cX7_text 45 = .ok (.getfield 26, 3) := by decide +kernel
theorem dX7_text_48 : decode cX7_text 48 = .ok (.iload_n 1, 1) := by decide +kernel
theorem dX7_text_49 : decode cX7_text 49 = .ok (.sipush 256, 3) := by decide +kernel
theorem dX7_text_52 : decode cX7_text 52 = .ok (.irem, 1) := by decide +kernel
theorem dX7_text_53 : decode cX7_text 53 = .ok (.iaload, 1) := by decide +kernel
theorem dX7_text_54 : decode cX7_text 54 = .ok (.ireturn, 1) := by decide +kernel
theorem dX7_want_0 : decode cX7_want 0 = .ok (.aload_n 0, 1) := by decide +kernel
theorem dX7_want_1 : decode cX7_want 1 = .ok (.iload_n 1, 1) := by decide +kernel
theorem dX7_want_2 : decode cX7_want 2 = .ok (.ifCond .lt 9, 3) := by decide +kernel
theorem dX7_want_5 : decode cX7_want 5 = .ok (.iload_n 1, 1) := by decide +kernel
theorem dX7_want_6 : decode cX7_want 6 = .ok (.bipush 7, 2) := by decide +kernel
theorem dX7_want_8 : decode cX7_want 8 = .ok (.if_icmp .le 7, 3) := by decide +kernel
theorem dX7_want_11 : decode cX7_want 11 = .ok (.iconst 1, 1) := by decide +kernel
theorem dX7_want_12 : decode cX7_want 12 = .ok (.goto 4, 3) := by decide +kernel
theorem dX7_want_15 : decode cX7_want 15 = .ok (.iconst 0, 1) := by decide +kernel
theorem dX7_want_16 : decode cX7_want 16 = .ok (.putfield 29, 3) := by decide +kernel
theorem dX7_want_19 : decode cX7_want 19 = .ok (.aload_n 0, 1) := by decide +kernel
theorem dX7_want_20 : decode cX7_want 20 = .ok (.getfield 29, 3) := by decide +kernel
theorem dX7_want_23 : decode cX7_want 23 = .ok (.ifCond .ne 8, 3) := by decide +kernel
