theorem dX7_step_74 : decode cX7_step 74 = .ok (.aload_n 0, 1) := by decide +kernel
theorem dX7_step_75 : decode cX7_step 75 = .ok (.getfield 47, 3) := by decide +kernel
theorem dX7_step_78 : decode cX7_step 78 = .ok (.invokevirtual 168, 3) := by decide +kernel
theorem dX7_step_81 : decode cX7_step 81 = .ok (.aload_n 0, 1) := by decide +kernel
theorem dX7_step_82 : decode cX7_step 82 = .ok (.bipush 8, 2) := by decide +kernel
theorem dX7_step_84 : decode cX7_step 84 = .ok (.aload_n 0, 1) := by decide +kernel
theorem dX7_step_85 : decode cX7_step 85 = .ok (.getfield 19, 3) := by decide +kernel
theorem dX7_step_88 : decode cX7_step 88 = .ok (.imul, 1) := by decide +kernel
theorem dX7_step_89 : decode cX7_step 89 = .ok (.putfield 47, 3) := by decide +kernel
theorem dX7_step_92 : decode cX7_step 92 = .ok (.aload_n 0, 1) := by decide +kernel
theorem dX7_step_93 : decode cX7_step 93 = .ok (.iconst (-1), 1) := by decide +kernel
theorem dX7_step_94 : decode cX7_step 94 = .ok (.putfield 19, 3) := by decide +kernel
theorem dX7_step_97 : decode cX7_step 97 = .ok (.goto 27, 3) := by decide +kernel
theorem dX7_step_100 : decode cX7_step 100 = .ok (.aload_n 0, 1) := by decide +kernel
theorem dX7_step_101 : decode cX7_step 101 = .ok (.getfield 204, 3) := by decide +kernel
theorem dX7_step_104 : decode cX7_step 104 = .ok (.ifCond .eq 16, 3) := by decide +kernel
theorem dX7_step_107 : decode cX7_step 107 = .ok (.aload_n 0, 1) := by decide +kernel
theorem dX7_step_108 : decode cX7_step 108 = .ok (.iconst 4, 1) := by decide +kernel
theorem dX7_step_109 : decode cX7_step 109 = .ok (.putfield 141, 3) := by decide +kernel
theorem dX7_step_112 : decode cX7_step 112 = .ok (.aload_n 0, 1) := by decide +kernel
theorem dX7_step_113 : decode cX7_step 113 = .ok (.iconst 0, 1) := by decide +kernel
theorem dX7_step_114 : decode cX7_step 114 = .ok (.putfield 199, 3) := by decide +kernel
theorem dX7_step_117 : decode cX7_step 117 = .ok (.goto 7, 3) := by decide +kernel
theorem dX7_step_120 : decode cX7_step 120 = .ok (.aload_n 0, 1) := by decide +kernel
theorem dX7_step_121 : decode cX7_step 121 = .ok (.invokevirtual 210, 3) := by decide +kernel
theorem dX7_step_124 : decode cX7_step 124 = .ok (.aload_n 0, 1) := by decide +kernel
theorem dX7_step_125 : decode cX7_step 125 = .ok (.invokevirtual 213, 3) := by decide +kernel
theorem dX7_step_128 : decode cX7_step 128 = .ok (.iload_n 2, 1) := by decide +kernel
theorem dX7_step_129 : decode cX7_step 129 = .ok (.aload_n 0, 1) := by decide +kernel
theorem dX7_step_130 : decode cX7_step 130 = .ok (.getfield 141, 3) := by decide +kernel
theorem dX7_step_133 : decode cX7_step 133 = .ok (.iadd, 1) := by decide +kernel
theorem dX7_step_134 : decode cX7_step 134 = .ok (.istore_n 2, 1) := by decide +kernel
theorem dX7_step_135 : decode cX7_step 135 = .ok (.iinc 3 1, 3) := by decide +kernel
theorem dX7_step_138 : decode cX7_step 138 = .ok (.goto (-114), 3) := by decide +kernel
theorem dX7_step_141 : decode cX7_step 141 = .ok (.iload_n 2, 1) := by decide +kernel
theorem dX7_step_142 : decode cX7_step 142 = .ok (.ireturn, 1) := by decide +kernel
set_option maxRecDepth 20000 in
theorem ggX7_type_X7_noByte : GoodIn wsX7_type wsX7_noByte := goodIn_r _ [7] (by decide +kernel) (by decide +kernel)
set_option maxRecDepth 20000 in
theorem gX7_type_X7_noByte : GoodIn wsX7_type (va_wsS RX7 36 yX7_noByte wsX7_noByte) := goodIn_app (goodIn_of _ (by decide +kernel)) ggX7_type_X7_noByte
theorem dX7_type_0 : decode cX7_type 0 = .ok (.aload_n 0, 1) := by decide +kernel
theorem dX7_type_1 : decode cX7_type 1 = .ok (.iload_n 1, 1) := by decide +kernel
