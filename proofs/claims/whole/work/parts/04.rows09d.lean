theorem dX7_type_2 : decode cX7_type 2 = .ok (.invokestatic 36, 3) := by decide +kernel
theorem dX7_type_5 : decode cX7_type 5 = .ok (.ifCond .eq 7, 3) := by decide +kernel
theorem dX7_type_8 : decode cX7_type 8 = .ok (.iconst 1, 1) := by decide +kernel
theorem dX7_type_9 : decode cX7_type 9 = .ok (.goto 4, 3) := by decide +kernel
theorem dX7_type_12 : decode cX7_type 12 = .ok (.iconst 0, 1) := by decide +kernel
theorem dX7_type_13 : decode cX7_type 13 = .ok (.putfield 29, 3) := by decide +kernel
theorem dX7_type_16 : decode cX7_type 16 = .ok (.aload_n 0, 1) := by decide +kernel
theorem dX7_type_17 : decode cX7_type 17 = .ok (.getfield 29, 3) := by decide +kernel
theorem dX7_type_20 : decode cX7_type 20 = .ok (.ifCond .le 5, 3) := by decide +kernel
theorem dX7_type_23 : decode cX7_type 23 = .ok (.iconst 0, 1) := by decide +kernel
theorem dX7_type_24 : decode cX7_type 24 = .ok (.ireturn, 1) := by decide +kernel
theorem dX7_type_25 : decode cX7_type 25 = .ok (.aload_n 0, 1) := by decide +kernel
theorem dX7_type_26 : decode cX7_type 26 = .ok (.getfield 103, 3) := by decide +kernel
theorem dX7_type_29 : decode cX7_type 29 = .ok (.bipush 64, 2) := by decide +kernel
theorem dX7_type_31 : decode cX7_type 31 = .ok (.if_icmp .ne 5, 3) := by decide +kernel
theorem dX7_type_34 : decode cX7_type 34 = .ok (.iconst (-1), 1) := by decide +kernel
theorem dX7_type_35 : decode cX7_type 35 = .ok (.ireturn, 1) := by decide +kernel
theorem dX7_type_36 : decode cX7_type 36 = .ok (.aload_n 0, 1) := by decide +kernel
theorem dX7_type_37 : decode cX7_type 37 = .ok (.getfield 23, 3) := by decide +kernel
theorem dX7_type_40 : decode cX7_type 40 = .ok (.aload_n 0, 1) := by decide +kernel
theorem dX7_type_41 : decode cX7_type 41 = .ok (.getfield 103, 3) := by decide +kernel
theorem dX7_type_44 : decode cX7_type 44 = .ok (.iload_n 1, 1) := by decide +kernel
theorem dX7_type_45 : decode cX7_type 45 = .ok (.iastore, 1) := by decide +kernel
theorem dX7_type_46 : decode cX7_type 46 = .ok (.aload_n 0, 1) := by decide +kernel
theorem dX7_type_47 : decode cX7_type 47 = .ok (.dup, 1) := by decide +kernel
theorem dX7_type_48 : decode cX7_type 48 = .ok (.getfield 103, 3) := by decide +kernel
theorem dX7_type_51 : decode cX7_type 51 = .ok (.iconst 1, 1) := by decide +kernel
theorem dX7_type_52 : decode cX7_type 52 = .ok (.iadd, 1) := by decide +kernel
theorem dX7_type_53 : decode cX7_type 53 = .ok (.putfield 103, 3) := by decide +kernel
theorem dX7_type_56 : decode cX7_type 56 = .ok (.aload_n 0, 1) := by decide +kernel
theorem dX7_type_57 : decode cX7_type 57 = .ok (.getfield 103, 3) := by decide +kernel
theorem dX7_type_60 : decode cX7_type 60 = .ok (.ireturn, 1) := by decide +kernel
theorem dX7_written_0 : decode cX7_written 0 = .ok (.aload_n 0, 1) := by decide +kernel
theorem dX7_written_1 : decode cX7_written 1 = .ok (.iconst 0, 1) := by decide +kernel
theorem dX7_written_2 : decode cX7_written 2 = .ok (.putfield 29, 3) := by decide +kernel
theorem dX7_written_5 : decode cX7_written 5 = .ok (.aload_n 0, 1) := by decide +kernel
theorem dX7_written_6 : decode cX7_written 6 = .ok (.getfield 109, 3) := by decide +kernel
theorem dX7_written_9 : decode cX7_written 9 = .ok (.ireturn, 1) := by decide +kernel
theorem dX7_text_0 : decode cX7_text 0 = .ok (.aload_n 0, 1) := by decide +kernel
theorem dX7_text_1 : decode cX7_text 1 = .ok (.iload_n 1, 1) := by decide +kernel
