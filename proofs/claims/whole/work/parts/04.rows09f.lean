theorem dX7_want_26 : decode cX7_want 26 = .ok (.aload_n 0, 1) := by decide +kernel
theorem dX7_want_27 : decode cX7_want 27 = .ok (.iload_n 1, 1) := by decide +kernel
theorem dX7_want_28 : decode cX7_want 28 = .ok (.putfield 19, 3) := by decide +kernel
theorem dX7_want_31 : decode cX7_want 31 = .ok (.return_, 1) := by decide +kernel
theorem dX7_cycles_0 : decode cX7_cycles 0 = .ok (.aload_n 0, 1) := by decide +kernel
theorem dX7_cycles_1 : decode cX7_cycles 1 = .ok (.iconst 0, 1) := by decide +kernel
theorem dX7_cycles_2 : decode cX7_cycles 2 = .ok (.putfield 29, 3) := by decide +kernel
theorem dX7_cycles_5 : decode cX7_cycles 5 = .ok (.aload_n 0, 1) := by decide +kernel
theorem dX7_cycles_6 : decode cX7_cycles 6 = .ok (.getfield 137, 3) := by decide +kernel
theorem dX7_cycles_9 : decode cX7_cycles 9 = .ok (.lreturn, 1) := by decide +kernel
theorem dX7_told_0 : decode cX7_told 0 = .ok (.aload_n 0, 1) := by decide +kernel
theorem dX7_told_1 : decode cX7_told 1 = .ok (.iload_n 1, 1) := by decide +kernel
theorem dX7_told_2 : decode cX7_told 2 = .ok (.ifCond .lt 8, 3) := by decide +kernel
theorem dX7_told_5 : decode cX7_told 5 = .ok (.iload_n 1, 1) := by decide +kernel
theorem dX7_told_6 : decode cX7_told 6 = .ok (.iconst 5, 1) := by decide +kernel
theorem dX7_told_7 : decode cX7_told 7 = .ok (.if_icmp .le 7, 3) := by decide +kernel
theorem dX7_told_10 : decode cX7_told 10 = .ok (.iconst 1, 1) := by decide +kernel
theorem dX7_told_11 : decode cX7_told 11 = .ok (.goto 4, 3) := by decide +kernel
theorem dX7_told_14 : decode cX7_told 14 = .ok (.iconst 0, 1) := by decide +kernel
theorem dX7_told_15 : decode cX7_told 15 = .ok (.putfield 29, 3) := by decide +kernel
theorem dX7_told_18 : decode cX7_told 18 = .ok (.aload_n 0, 1) := by decide +kernel
theorem dX7_told_19 : decode cX7_told 19 = .ok (.getfield 29, 3) := by decide +kernel
theorem dX7_told_22 : decode cX7_told 22 = .ok (.ifCond .le 5, 3) := by decide +kernel
theorem dX7_told_25 : decode cX7_told 25 = .ok (.iconst 0, 1) := by decide +kernel
theorem dX7_told_26 : decode cX7_told 26 = .ok (.ireturn, 1) := by decide +kernel
theorem dX7_told_27 : decode cX7_told 27 = .ok (.iload_n 1, 1) := by decide +kernel
theorem dX7_told_28 : decode cX7_told 28 = .ok (.ifCond .ne 18, 3) := by decide +kernel
theorem dX7_told_31 : decode cX7_told 31 = .ok (.aload_n 0, 1) := by decide +kernel
theorem dX7_told_32 : decode cX7_told 32 = .ok (.getfield 204, 3) := by decide +kernel
theorem dX7_told_35 : decode cX7_told 35 = .ok (.ifCond .eq 7, 3) := by decide +kernel
theorem dX7_told_38 : decode cX7_told 38 = .ok (.iconst 1, 1) := by decide +kernel
theorem dX7_told_39 : decode cX7_told 39 = .ok (.goto 67, 3) := by decide +kernel
theorem dX7_told_42 : decode cX7_told 42 = .ok (.iconst 0, 1) := by decide +kernel
theorem dX7_told_43 : decode cX7_told 43 = .ok (.goto 63, 3) := by decide +kernel
theorem dX7_told_46 : decode cX7_told 46 = .ok (.iload_n 1, 1) := by decide +kernel
theorem dX7_told_47 : decode cX7_told 47 = .ok (.iconst 1, 1) := by decide +kernel
theorem dX7_told_48 : decode cX7_told 48 = .ok (.if_icmp .ne 18, 3) := by decide +kernel
theorem dX7_told_51 : decode cX7_told 51 = .ok (.aload_n 0, 1) := by decide +kernel
theorem dX7_told_52 : decode cX7_told 52 = .ok (.getfield 196, 3) := by decide +kernel
theorem dX7_told_55 : decode cX7_told 55 = .ok (.ifCond .eq 7, 3) := by decide +kernel
